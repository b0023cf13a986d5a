set_option maxHeartbeats 4000000 in
set_option maxRecDepth 100000 in
theorem a_X10_text (l : Launch) (K : KE) (G : Nat → Option Nat) (H : Heap) {a0 : Nat} (x1 : Int32) (x2 : Int32) {oq : Nat} {aq : Nat} {f9 : Nat} {f0 : Nat} {f1 : Nat} {mq : Nat} (mn : Int32) (tq0 : Int32) (hT : TY K G H) (ga0 : G a0 = some 112) (goq : G oq = some 136) (eoq : oq = fR H a0 (K.1.2 10 32)) (gaq : G aq = some 137) (eaq : aq = fR H a0 (K.1.2 10 33)) (gf9 : G f9 = some 133) (ef9 : f9 = fR H a0 (K.1.2 10 29)) (gf0 : G f0 = some 134) (ef0 : f0 = fR H a0 (K.1.2 10 30)) (gf1 : G f1 = some 135) (ef1 : f1 = fR H a0 (K.1.2 10 31)) (gmq : G mq = some 128) (emq : mq = fR H a0 (K.1.2 10 24)) (emn : mn = fI H a0 (K.1.2 10 35)) (etq0 : tq0 = fI H a0 (K.1.2 10 18)) (hg_CG : CG (avw K H a0)) (hg_TU : TU (avw K H a0) (svw K H a0)) (hg_WD : WD (avw K H a0)) (hg_IM : IM (avw K H a0)) : MX l K yX10_text cX10_text 7 (some .int) 10 215 0 0 [.ref a0, .int x1, .int x2] H (AE G [112, 136, 137, 138, 129, 130, 131, 132, 133, 134, 135, 128] H.size) (fun v H1 => ∃ (r : Int32) (t0 : Int32) (t1 : Int32), v = some (.int r) ∧ t0 = fI H1 a0 (K.1.2 10 35) ∧ t1 = fI H1 a0 (K.1.2 10 18) ∧ (t1.toInt = 0) ∧ oq = fR H1 a0 (K.1.2 10 32) ∧ aq = fR H1 a0 (K.1.2 10 33) ∧ f9 = fR H1 a0 (K.1.2 10 29) ∧ f0 = fR H1 a0 (K.1.2 10 30) ∧ f1 = fR H1 a0 (K.1.2 10 31) ∧ mq = fR H1 a0 (K.1.2 10 24) ∧ (CG (avw K H1 a0)) ∧ (TU (avw K H1 a0) (svw K H1 a0)) ∧ (WD (avw K H1 a0)) ∧ (IM (avw K H1 a0)) ∧ MF K H H1 a0 [0, 18, 19, 20, 21, 22, 34, 35, 36, 38, 39, 40, 41, 42] ∧ TY K G H1) := by
  refine MX.of (by decide +kernel) (Nat.le_of_ble_eq_true rfl) ?_
  intro p e s m below meth c ls Q C hH hl hQ
  subst hH
  have C : CX p K s m _ meth c RX10 cX10_text 7 (some .int) "text" := C
  obtain ⟨hx, hb, hml, hown, hts, hKT, hr, hlocks, hnm⟩ := id C
  have hl : lv_has ls 7 [(0, .ref a0), (1, .int x1), (2, .int x2)] := hl
  have hS : va_S (AE G [112, 136, 137, 138, 129, 130, 131, 132, 133, 134, 135, 128] s.heap.size) s.heap s.heap [] := va_S.rf
  have n_m1 : ((-1) : Int32).toInt = -1 := rfl
  have n_0 : (0 : Int32).toInt = 0 := rfl
  have n_1 : (1 : Int32).toInt = 1 := rfl
  have n_2 : (2 : Int32).toInt = 2 := rfl
  have n_3 : (3 : Int32).toInt = 3 := rfl
  have n_16 : (16 : Int32).toInt = 16 := rfl
  have n_96 : (96 : Int32).toInt = 96 := rfl
  have n_500 : (500 : Int32).toInt = 500 := rfl
  have n_3000 : (3000 : Int32).toInt = 3000 := rfl
  have bmn := ty_fi (x := mn) (k := 35) emn hT ga0 rg_112 rfl
  have btq0 := ty_fi (x := tq0) (k := 18) etq0 hT ga0 rg_112 rfl
  have hap : ∀ x y, x < 74 → y < 74 → x ≠ y → K.1.2 10 x ≠ K.1.2 10 y := x_apart hKT hts inX10 tyX10 tyX10_ok nmX10 rfl
  have mf0 : MF K s.heap s.heap a0 [0, 18, 19, 20, 21, 22, 34, 35, 36, 38, 39, 40, 41, 42] := fun _ _ _ => rfl
  replace eoq := EQN.mk eoq
  replace eaq := EQN.mk eaq
  replace ef9 := EQN.mk ef9
  replace ef0 := EQN.mk ef0
  replace ef1 := EQN.mk ef1
  replace emq := EQN.mk emq
  have J149 : ∀  (ls9246 : Array Slot) (H9245 : Heap) (locsH9245 : List Loc) (x9248 : Int32) (x9249 : Int32) (x9250 : Int32) (x9251 : Int32), lv_has ls9246 7 [(0, .ref a0), (4, .int x9248), (5, .int x9249)] → TY K G H9245 → va_S (AE G [112, 136, 137, 138, 129, 130, 131, 132, 133, 134, 135, 128] s.heap.size) s.heap H9245 locsH9245 → (0 ≤ x9248.toInt ∧ x9248.toInt ≤ 16) → (0 ≤ x9249.toInt ∧ x9249.toInt ≤ 5) → (0 ≤ x9250.toInt ∧ x9250.toInt ≤ 500) → (0 ≤ x9251.toInt ∧ x9251.toInt ≤ 0) → (x9250 = fI H9245 a0 (K.1.2 10 35)) → (x9251 = fI H9245 a0 (K.1.2 10 18)) → (EQN oq (fR H9245 a0 (K.1.2 10 32))) → (EQN aq (fR H9245 a0 (K.1.2 10 33))) → (EQN f9 (fR H9245 a0 (K.1.2 10 29))) → (EQN f0 (fR H9245 a0 (K.1.2 10 30))) → (EQN f1 (fR H9245 a0 (K.1.2 10 31))) → (EQN mq (fR H9245 a0 (K.1.2 10 24))) → (MF K s.heap H9245 a0 [0, 18, 19, 20, 21, 22, 34, 35, 36, 38, 39, 40, 41, 42]) → (CG (avw K H9245 a0)) → (TU (avw K H9245 a0) (svw K H9245 a0)) → (WD (avw K H9245 a0)) → (IM (avw K H9245 a0)) → (x9251.toInt = 0) → (DL (fun k => fI H9245 f9 k) (fun k => fI H9245 f0 k) (fun k => fI H9245 f1 k) (fun k => fI H9245 oq k) (fun k => fI H9245 aq k) x9248.toNatClampNeg x9250.toInt) → W p l e ({ frames := 10, cells := 0, slots := 0, locals := 215 } : Room) s m (([.ref a0, .int x1, .int x2] : List Value).toArray) below meth c H9245 locsH9245 0 0 Q (F0 m 149 ls9246 []) := by
    intro  ls9246 H9245 locsH9245 x9248 x9249 x9250 x9251 hl9247 hTH9245 hSH9245 bx9248 bx9249 bx9250 bx9251 ex9250 ex9251 cy9252_0 cy9252_1 cy9252_2 cy9252_3 cy9252_4 cy9252_5 mfy9252 gy9252_CG gy9252_TU gy9252_WD gy9252_IM iv149 hDL
    have J329 : ∀ (nf : Nat) (ls9254 : Array Slot) (H9253 : Heap) (locsH9253 : List Loc) (x9256 : Int32) (x9257 : Int32) (x9258 : Int32), lv_has ls9254 7 [(0, .ref a0), (4, .int x9248), (5, .int x9249), (6, .int x9256)] → TY K G H9253 → va_S (AE G [112, 136, 137, 138, 129, 130, 131, 132, 133, 134, 135, 128] s.heap.size) s.heap H9253 locsH9253 → (0 ≤ x9256.toInt ∧ x9256.toInt ≤ 500) → (0 ≤ x9257.toInt ∧ x9257.toInt ≤ 500) → (0 ≤ x9258.toInt ∧ x9258.toInt ≤ 0) → (x9257 = fI H9253 a0 (K.1.2 10 35)) → (x9258 = fI H9253 a0 (K.1.2 10 18)) → (EQN oq (fR H9253 a0 (K.1.2 10 32))) → (EQN aq (fR H9253 a0 (K.1.2 10 33))) → (EQN f9 (fR H9253 a0 (K.1.2 10 29))) → (EQN f0 (fR H9253 a0 (K.1.2 10 30))) → (EQN f1 (fR H9253 a0 (K.1.2 10 31))) → (EQN mq (fR H9253 a0 (K.1.2 10 24))) → (CP (fun k => fI H9253 f9 k) (fun k => fI H9245 f9 k) (16 * x9249.toNatClampNeg) (96) (x9248.toNatClampNeg)) → (CP (fun k => fI H9253 f0 k) (fun k => fI H9245 f0 k) (16 * x9249.toNatClampNeg) (96) (x9248.toNatClampNeg)) → (CP (fun k => fI H9253 f1 k) (fun k => fI H9245 f1 k) (16 * x9249.toNatClampNeg) (96) (x9248.toNatClampNeg)) → (CP (fun k => fI H9253 oq k) (fun k => fI H9245 oq k) (500 * x9249.toNatClampNeg) (3000) (x9256.toNatClampNeg)) → (CP (fun k => fI H9253 aq k) (fun k => fI H9245 aq k) (500 * x9249.toNatClampNeg) (3000) (x9256.toNatClampNeg)) → (CP (fun k => fI H9253 mq k) (fun k => fI H9245 mq k) (0) (0) (0)) → (MF K s.heap H9253 a0 [0, 18, 19, 20, 21, 22, 34, 35, 36, 38, 39, 40, 41, 42]) → (TU (avw K H9253 a0) (svw K H9253 a0)) → (WD (avw K H9253 a0)) → (IM (avw K H9253 a0)) → (500 - x9256.toInt < (nf : Int)) → (x9257.toInt = x9250.toInt ∧ x9258.toInt = 0) → W p l e ({ frames := 10, cells := 0, slots := 0, locals := 215 } : Room) s m (([.ref a0, .int x1, .int x2] : List Value).toArray) below meth c H9253 locsH9253 0 0 Q (F0 m 329 ls9254 []) := by
      intro nf
      induction nf with
      | zero =>
        intro ls9254 H9253 locsH9253 x9256 x9257 x9258 hl9255 hTH9253 hSH9253 bx9256 bx9257 bx9258 ex9257 ex9258 cy9259_0 cy9259_1 cy9259_2 cy9259_3 cy9259_4 cy9259_5 by9259_c9 by9259_c0 by9259_c1 by9259_co by9259_ca by9259_cm mfy9259 gy9259_TU gy9259_WD gy9259_IM hm329 iv329
        exfalso
        omega
      | succ nf ih329 =>
        intro ls9254 H9253 locsH9253 x9256 x9257 x9258 hl9255 hTH9253 hSH9253 bx9256 bx9257 bx9258 ex9257 ex9258 cy9259_0 cy9259_1 cy9259_2 cy9259_3 cy9259_4 cy9259_5 by9259_c9 by9259_c0 by9259_c1 by9259_co by9259_ca by9259_cm mfy9259 gy9259_TU gy9259_WD gy9259_IM hm329 iv329
        refine lv_iload hx hb dX10_text_329 (lv_at hl9255 3 rfl) ?_
        refine lv_aload_n hx hb dX10_text_331 rfl (lv_at hl9255 0 rfl) ?_
        refine x_gi C hTH9253 (ci := 10) (k := 35) rfl inX10 (by decide) wF_X10_228 ga0 rg_112 rfl dX10_text_332 (fun x9260 ex9260 bx9260 => ?_)
        have ux9260 : x9257 = x9260 := (ex9257).trans ex9260.symm
        subst ux9260
        refine lv_icmp_ge (tgt := 394) hx hb dX10_text_335 (by decide) (fun c9261 => ?_) (fun c9261 => ?_)
        · have k9262 := i_le c9261
          refine lv_aload_n hx hb dX10_text_394 rfl (lv_at hl9255 0 rfl) ?_
          refine x_gr C hTH9253 (ci := 10) (k := 24) rfl inX10 (by decide) wF_X10_59 ga0 rg_112 rfl dX10_text_395 (fun q9263 eq9263 gq9263 => ?_)
          have uq9263 : mq = q9263 := (cy9259_5).trans eq9263.symm
          subst uq9263
          clear eq9263
          refine lv_iload hx hb dX10_text_398 (lv_at hl9255 2 rfl) ?_
          refine lv_iload hx hb dX10_text_400 (lv_at hl9255 1 rfl) ?_
          refine x_iast C hTH9253 hSH9253 gmq rg_128 (by omega) (by show _ < ((7 : Nat) : Int); omega) ⟨by have := i_rng x9248; omega, by have := i_rng x9248; omega⟩ (AE_in gmq (by decide)) dX10_text_402 (fun H9264 locsH9264 hTH9264 hSH9264 wH9264 => ?_)
          have mf9265 : MF K s.heap H9264 a0 [0, 18, 19, 20, 21, 22, 34, 35, 36, 38, 39, 40, 41, 42] := MF.arr wH9264 (G_ne ga0 gmq (by decide)) mfy9259
          have g9266 : TU (avw K H9264 a0) (svw K H9264 a0) := TU.congr (fun k hk j => av_arr hTH9253 ga0 wH9264 gmq (by decide) (TU_ok 128 (by decide) k hk)) (fun k hk => sv_arr ga0 wH9264 gmq (by decide)) gy9259_TU
          have g9267 : WD (avw K H9264 a0) := WD.congr (fun k hk j => av_arr hTH9253 ga0 wH9264 gmq (by decide) (WD_ok 128 (by decide) k hk)) gy9259_WD
          have g9268 : IM (avw K H9264 a0) := IM.congr (fun k hk j => av_arr hTH9253 ga0 wH9264 gmq (by decide) (IM_ok 128 (by decide) k hk)) gy9259_IM
          have b9269 : CP (fun k => fI H9264 f9 k) (fun k => fI H9245 f9 k) (16 * x9249.toNatClampNeg) (96) (x9248.toNatClampNeg) := CP.congr (fun j => Wr.neI wH9264 (Or.inl (G_ne gf9 gmq (by decide)))) by9259_c9
          have b9270 : CP (fun k => fI H9264 f0 k) (fun k => fI H9245 f0 k) (16 * x9249.toNatClampNeg) (96) (x9248.toNatClampNeg) := CP.congr (fun j => Wr.neI wH9264 (Or.inl (G_ne gf0 gmq (by decide)))) by9259_c0
          have b9271 : CP (fun k => fI H9264 f1 k) (fun k => fI H9245 f1 k) (16 * x9249.toNatClampNeg) (96) (x9248.toNatClampNeg) := CP.congr (fun j => Wr.neI wH9264 (Or.inl (G_ne gf1 gmq (by decide)))) by9259_c1
          have b9272 : CP (fun k => fI H9264 oq k) (fun k => fI H9245 oq k) (500 * x9249.toNatClampNeg) (3000) (x9256.toNatClampNeg) := CP.congr (fun j => Wr.neI wH9264 (Or.inl (G_ne goq gmq (by decide)))) by9259_co
          have b9273 : CP (fun k => fI H9264 aq k) (fun k => fI H9245 aq k) (500 * x9249.toNatClampNeg) (3000) (x9256.toNatClampNeg) := CP.congr (fun j => Wr.neI wH9264 (Or.inl (G_ne gaq gmq (by decide)))) by9259_ca
          have m9274 := ex9257.trans (Wr.neI wH9264 (Or.inl (G_ne ga0 gmq (by decide)))).symm
          have m9275 := ex9258.trans (Wr.neI wH9264 (Or.inl (G_ne ga0 gmq (by decide)))).symm
          have m9276 := cy9259_0.trans (Wr.neR wH9264 (Or.inl (G_ne ga0 gmq (by decide)))).symm
          have m9277 := cy9259_1.trans (Wr.neR wH9264 (Or.inl (G_ne ga0 gmq (by decide)))).symm
          have m9278 := cy9259_2.trans (Wr.neR wH9264 (Or.inl (G_ne ga0 gmq (by decide)))).symm
          have m9279 := cy9259_3.trans (Wr.neR wH9264 (Or.inl (G_ne ga0 gmq (by decide)))).symm
          have m9280 := cy9259_4.trans (Wr.neR wH9264 (Or.inl (G_ne ga0 gmq (by decide)))).symm
          have m9281 := cy9259_5.trans (Wr.neR wH9264 (Or.inl (G_ne ga0 gmq (by decide)))).symm
          have m9282 := Wr.I wH9264
          have m9282 := m9282.symm
          clear by9259_c0 by9259_c1 by9259_c9 by9259_ca by9259_co cy9259_0 cy9259_1 cy9259_2 cy9259_3 cy9259_4 cy9259_5 ex9257 ex9258 gy9259_IM gy9259_TU gy9259_WD hTH9253 mfy9259
          have cf_x9248 := i_cl (x := x9248) (by omega)
          have cf_x9249 := i_cl (x := x9249) (by omega)
          have cf_x9256 := i_cl (x := x9256) (by omega)
          have cf_x9257 := i_cl (x := x9257) (by omega)
          have cgz : CG (avw K H9264 a0) := CG.fin (row := x9249.toNatClampNeg) (n := x9248.toNatClampNeg) (i := x9256.toNatClampNeg) hTH9245 ga0 cy9252_5 cy9252_2 cy9252_3 cy9252_4 cy9252_0 cy9252_1 m9281 m9278 m9279 m9280 m9276 m9277 gy9252_CG  hDL (by omega) (by omega) (by omega) (by omega) (CP.cast b9269 (by omega) (by omega) (by omega)) (CP.cast b9270 (by omega) (by omega) (by omega)) (CP.cast b9271 (by omega) (by omega) (by omega)) (CP.cast b9272 (by omega) (by omega) (by omega)) (CP.cast b9273 (by omega) (by omega) (by omega)) (by rw [Wr.I wH9264]; omega) (fun j hj => (Wr.neI wH9264 (Or.inr hj)).trans (by9259_cm.2 j (Or.inr (by omega))))
          refine lv_iload hx hb dX10_text_403 (lv_at hl9255 1 rfl) ?_
          exact x_iret C hQ dX10_text_405 hSH9264 (by decide) (by decide) (⟨x9248, x9257, x9258, rfl, m9274, m9275, by omega, m9276, m9277, m9278, m9279, m9280, m9281, cgz, g9266, g9267, g9268, mf9265, hTH9264⟩)
        · have k9262 := i_nle c9261
          have hrw : 0 ≤ x9249.toInt ∧ x9249.toInt ≤ 5 := ⟨by omega, by omega⟩
          have hlw : 0 ≤ x9256.toInt ∧ x9256.toInt ≤ 499 := ⟨by omega, by omega⟩
          refine lv_aload_n hx hb dX10_text_338 rfl (lv_at hl9255 0 rfl) ?_
          refine x_gr C hTH9253 (ci := 10) (k := 32) rfl inX10 (by decide) wF_X10_83 ga0 rg_112 rfl dX10_text_339 (fun q9283 eq9283 gq9283 => ?_)
          have uq9283 : oq = q9283 := (cy9259_0).trans eq9283.symm
          subst uq9283
          clear eq9283
          refine lv_sipush (v := 500) hx hb dX10_text_342 (by decide) ?_
          refine lv_iload hx hb dX10_text_345 (lv_at hl9255 2 rfl) ?_
          refine lv_imul hx hb dX10_text_347 ?_
          refine lv_topi (fun x9284 ex9284 => ?_)
          have tx9284 := i_mul ex9284 (by rw [n_500]; omega)
          rw [n_500] at tx9284
          refine lv_iload hx hb dX10_text_348 (lv_at hl9255 3 rfl) ?_
          refine lv_iadd hx hb dX10_text_350 ?_
          refine lv_topi (fun x9285 ex9285 => ?_)
          have tx9285 := i_add ex9285 (by omega)
          refine lv_aload_n hx hb dX10_text_351 rfl (lv_at hl9255 0 rfl) ?_
          refine x_gr C hTH9253 (ci := 10) (k := 32) rfl inX10 (by decide) wF_X10_83 ga0 rg_112 rfl dX10_text_352 (fun q9286 eq9286 gq9286 => ?_)
          have uq9286 : oq = q9286 := (cy9259_0).trans eq9286.symm
          subst uq9286
          clear eq9286
          refine lv_sipush (v := 3000) hx hb dX10_text_355 (by decide) ?_
          refine lv_iload hx hb dX10_text_358 (lv_at hl9255 3 rfl) ?_
          refine lv_iadd hx hb dX10_text_360 ?_
          refine lv_topi (fun x9287 ex9287 => ?_)
          have tx9287 := i_add ex9287 (by omega)
          refine x_ai C hTH9253 goq rg_136 ⟨by omega, by show _ < ((3500 : Nat) : Int); omega⟩ dX10_text_361 (fun x9288 ex9288 bx9288 => ?_)
          refine x_iast C hTH9253 hSH9253 goq rg_136 (by omega) (by show _ < ((3500 : Nat) : Int); omega) ⟨by have := i_rng x9288; omega, by have := i_rng x9288; omega⟩ (AE_in goq (by decide)) dX10_text_362 (fun H9289 locsH9289 hTH9289 hSH9289 wH9289 => ?_)
          have mf9290 : MF K s.heap H9289 a0 [0, 18, 19, 20, 21, 22, 34, 35, 36, 38, 39, 40, 41, 42] := MF.arr wH9289 (G_ne ga0 goq (by decide)) mfy9259
          have g9291 : TU (avw K H9289 a0) (svw K H9289 a0) := TU.congr (fun k hk j => av_arr hTH9253 ga0 wH9289 goq (by decide) (TU_ok 136 (by decide) k hk)) (fun k hk => sv_arr ga0 wH9289 goq (by decide)) gy9259_TU
          have g9292 : WD (avw K H9289 a0) := WD.congr (fun k hk j => av_arr hTH9253 ga0 wH9289 goq (by decide) (WD_ok 136 (by decide) k hk)) gy9259_WD
          have g9293 : IM (avw K H9289 a0) := IM.congr (fun k hk j => av_arr hTH9253 ga0 wH9289 goq (by decide) (IM_ok 136 (by decide) k hk)) gy9259_IM
          have b9294 : CP (fun k => fI H9289 f9 k) (fun k => fI H9245 f9 k) (16 * x9249.toNatClampNeg) (96) (x9248.toNatClampNeg) := CP.congr (fun j => Wr.neI wH9289 (Or.inl (G_ne gf9 goq (by decide)))) by9259_c9
          have b9295 : CP (fun k => fI H9289 f0 k) (fun k => fI H9245 f0 k) (16 * x9249.toNatClampNeg) (96) (x9248.toNatClampNeg) := CP.congr (fun j => Wr.neI wH9289 (Or.inl (G_ne gf0 goq (by decide)))) by9259_c0
          have b9296 : CP (fun k => fI H9289 f1 k) (fun k => fI H9245 f1 k) (16 * x9249.toNatClampNeg) (96) (x9248.toNatClampNeg) := CP.congr (fun j => Wr.neI wH9289 (Or.inl (G_ne gf1 goq (by decide)))) by9259_c1
          have b9297 : CP (fun k => fI H9289 oq k) (fun k => fI H9245 oq k) (500 * x9249.toNatClampNeg) (3000) (x9256.toNatClampNeg + 1) := CP.step by9259_co (i := x9285.toNatClampNeg) (k := x9287.toNatClampNeg) (x := x9288) (ix500 tx9284 tx9285 hrw.1 hlw.1) (le500 hrw hlw) (ixk n_3000 tx9287 hlw.1) ex9288 (Wr.I wH9289) (fun j hj => Wr.neI wH9289 (Or.inr hj))
          have b9298 : CP (fun k => fI H9289 aq k) (fun k => fI H9245 aq k) (500 * x9249.toNatClampNeg) (3000) (x9256.toNatClampNeg) := CP.congr (fun j => Wr.neI wH9289 (Or.inl (G_ne gaq goq (by decide)))) by9259_ca
          have b9299 : CP (fun k => fI H9289 mq k) (fun k => fI H9245 mq k) (0) (0) (0) := CP.congr (fun j => Wr.neI wH9289 (Or.inl (G_ne gmq goq (by decide)))) by9259_cm
          have m9300 := ex9257.trans (Wr.neI wH9289 (Or.inl (G_ne ga0 goq (by decide)))).symm
          have m9301 := ex9258.trans (Wr.neI wH9289 (Or.inl (G_ne ga0 goq (by decide)))).symm
          have m9302 := cy9259_0.trans (Wr.neR wH9289 (Or.inl (G_ne ga0 goq (by decide)))).symm
          have m9303 := cy9259_1.trans (Wr.neR wH9289 (Or.inl (G_ne ga0 goq (by decide)))).symm
          have m9304 := cy9259_2.trans (Wr.neR wH9289 (Or.inl (G_ne ga0 goq (by decide)))).symm
          have m9305 := cy9259_3.trans (Wr.neR wH9289 (Or.inl (G_ne ga0 goq (by decide)))).symm
          have m9306 := cy9259_4.trans (Wr.neR wH9289 (Or.inl (G_ne ga0 goq (by decide)))).symm
          have m9307 := cy9259_5.trans (Wr.neR wH9289 (Or.inl (G_ne ga0 goq (by decide)))).symm
          have m9309 := Wr.I wH9289
          have m9309 := m9309.symm
          clear by9259_c0 by9259_c1 by9259_c9 by9259_ca by9259_co cy9259_0 cy9259_1 cy9259_2 cy9259_3 cy9259_4 cy9259_5 ex9257 ex9258 ex9288 gy9259_IM gy9259_TU gy9259_WD hTH9253 mfy9259
          clear tx9284 tx9285 tx9287 bx9288 ex9284 ex9285 ex9287
          refine lv_aload_n hx hb dX10_text_363 rfl (lv_at hl9255 0 rfl) ?_
          refine x_gr C hTH9289 (ci := 10) (k := 33) rfl inX10 (by decide) wF_X10_86 ga0 rg_112 rfl dX10_text_364 (fun q9310 eq9310 gq9310 => ?_)
          have uq9310 : aq = q9310 := (m9303).trans eq9310.symm
          subst uq9310
          clear eq9310
          refine lv_sipush (v := 500) hx hb dX10_text_367 (by decide) ?_
          refine lv_iload hx hb dX10_text_370 (lv_at hl9255 2 rfl) ?_
          refine lv_imul hx hb dX10_text_372 ?_
          refine lv_topi (fun x9311 ex9311 => ?_)
          have tx9311 := i_mul ex9311 (by rw [n_500]; omega)
          rw [n_500] at tx9311
          refine lv_iload hx hb dX10_text_373 (lv_at hl9255 3 rfl) ?_
          refine lv_iadd hx hb dX10_text_375 ?_
          refine lv_topi (fun x9312 ex9312 => ?_)
          have tx9312 := i_add ex9312 (by omega)
          refine lv_aload_n hx hb dX10_text_376 rfl (lv_at hl9255 0 rfl) ?_
          refine x_gr C hTH9289 (ci := 10) (k := 33) rfl inX10 (by decide) wF_X10_86 ga0 rg_112 rfl dX10_text_377 (fun q9313 eq9313 gq9313 => ?_)
          have uq9313 : aq = q9313 := (m9303).trans eq9313.symm
          subst uq9313
          clear eq9313
          refine lv_sipush (v := 3000) hx hb dX10_text_380 (by decide) ?_
          refine lv_iload hx hb dX10_text_383 (lv_at hl9255 3 rfl) ?_
          refine lv_iadd hx hb dX10_text_385 ?_
          refine lv_topi (fun x9314 ex9314 => ?_)
          have tx9314 := i_add ex9314 (by omega)
          refine x_ai C hTH9289 gaq rg_137 ⟨by omega, by show _ < ((3500 : Nat) : Int); omega⟩ dX10_text_386 (fun x9315 ex9315 bx9315 => ?_)
          refine x_iast C hTH9289 hSH9289 gaq rg_137 (by omega) (by show _ < ((3500 : Nat) : Int); omega) ⟨by have := i_rng x9315; omega, by have := i_rng x9315; omega⟩ (AE_in gaq (by decide)) dX10_text_387 (fun H9316 locsH9316 hTH9316 hSH9316 wH9316 => ?_)
          have mf9317 : MF K s.heap H9316 a0 [0, 18, 19, 20, 21, 22, 34, 35, 36, 38, 39, 40, 41, 42] := MF.arr wH9316 (G_ne ga0 gaq (by decide)) mf9290
          have g9318 : TU (avw K H9316 a0) (svw K H9316 a0) := TU.congr (fun k hk j => av_arr hTH9289 ga0 wH9316 gaq (by decide) (TU_ok 137 (by decide) k hk)) (fun k hk => sv_arr ga0 wH9316 gaq (by decide)) g9291
          have g9319 : WD (avw K H9316 a0) := WD.congr (fun k hk j => av_arr hTH9289 ga0 wH9316 gaq (by decide) (WD_ok 137 (by decide) k hk)) g9292
          have g9320 : IM (avw K H9316 a0) := IM.congr (fun k hk j => av_arr hTH9289 ga0 wH9316 gaq (by decide) (IM_ok 137 (by decide) k hk)) g9293
          have b9321 : CP (fun k => fI H9316 f9 k) (fun k => fI H9245 f9 k) (16 * x9249.toNatClampNeg) (96) (x9248.toNatClampNeg) := CP.congr (fun j => Wr.neI wH9316 (Or.inl (G_ne gf9 gaq (by decide)))) b9294
          have b9322 : CP (fun k => fI H9316 f0 k) (fun k => fI H9245 f0 k) (16 * x9249.toNatClampNeg) (96) (x9248.toNatClampNeg) := CP.congr (fun j => Wr.neI wH9316 (Or.inl (G_ne gf0 gaq (by decide)))) b9295
          have b9323 : CP (fun k => fI H9316 f1 k) (fun k => fI H9245 f1 k) (16 * x9249.toNatClampNeg) (96) (x9248.toNatClampNeg) := CP.congr (fun j => Wr.neI wH9316 (Or.inl (G_ne gf1 gaq (by decide)))) b9296
          have b9324 : CP (fun k => fI H9316 oq k) (fun k => fI H9245 oq k) (500 * x9249.toNatClampNeg) (3000) (x9256.toNatClampNeg + 1) := CP.congr (fun j => Wr.neI wH9316 (Or.inl (G_ne goq gaq (by decide)))) b9297
          have b9325 : CP (fun k => fI H9316 aq k) (fun k => fI H9245 aq k) (500 * x9249.toNatClampNeg) (3000) (x9256.toNatClampNeg + 1) := CP.step b9298 (i := x9312.toNatClampNeg) (k := x9314.toNatClampNeg) (x := x9315) (ix500 tx9311 tx9312 hrw.1 hlw.1) (le500 hrw hlw) (ixk n_3000 tx9314 hlw.1) ex9315 (Wr.I wH9316) (fun j hj => Wr.neI wH9316 (Or.inr hj))
          have b9326 : CP (fun k => fI H9316 mq k) (fun k => fI H9245 mq k) (0) (0) (0) := CP.congr (fun j => Wr.neI wH9316 (Or.inl (G_ne gmq gaq (by decide)))) b9299
          have m9327 := m9300.trans (Wr.neI wH9316 (Or.inl (G_ne ga0 gaq (by decide)))).symm
          have m9328 := m9301.trans (Wr.neI wH9316 (Or.inl (G_ne ga0 gaq (by decide)))).symm
          have m9329 := m9302.trans (Wr.neR wH9316 (Or.inl (G_ne ga0 gaq (by decide)))).symm
          have m9330 := m9303.trans (Wr.neR wH9316 (Or.inl (G_ne ga0 gaq (by decide)))).symm
          have m9331 := m9304.trans (Wr.neR wH9316 (Or.inl (G_ne ga0 gaq (by decide)))).symm
          have m9332 := m9305.trans (Wr.neR wH9316 (Or.inl (G_ne ga0 gaq (by decide)))).symm
          have m9333 := m9306.trans (Wr.neR wH9316 (Or.inl (G_ne ga0 gaq (by decide)))).symm
          have m9334 := m9307.trans (Wr.neR wH9316 (Or.inl (G_ne ga0 gaq (by decide)))).symm
          have m9335 := m9309.trans (Wr.neI wH9316 (Or.inl (G_ne goq gaq (by decide)))).symm
          have m9337 := Wr.I wH9316
          have m9337 := m9337.symm
          clear b9294 b9295 b9296 b9297 b9298 b9299 ex9315 g9291 g9292 g9293 hTH9289 m9300 m9301 m9302 m9303 m9304 m9305 m9306 m9307 m9309 mf9290
          clear tx9311 tx9312 tx9314 bx9315 ex9311 ex9312 ex9314
          obtain ⟨x9338, ex9338⟩ : ∃ y : Int32, y = x9256 + 1 := ⟨_, rfl⟩
          have tx9338 := i_add ex9338 (by omega)
          refine lv_iinc (v := x9338) (lv' := [(6, .int x9338), (0, .ref a0), (4, .int x9248), (5, .int x9249)]) hx hb dX10_text_388 hl9255 (k := 3) rfl (by rw [ex9338]; rfl) (by decide) rfl (fun ls9339 hl9340 => ?_)
          refine lv_goto (tgt := 329) hx hb dX10_text_391 (by decide) ?_
          have cl_x9248 := i_cl (x := x9248) (by omega)
          have cl_x9249 := i_cl (x := x9249) (by omega)
          have cl_x9256 := i_cl (x := x9256) (by omega)
          have cl_x9338 := i_cl (x := x9338) (by omega)
          exact ih329 ls9339 H9316 locsH9316 (x9338) (x9257) (x9258) (lv_sub hl9340 [1, 2, 3, 0] rfl) hTH9316 hSH9316 ⟨by have := i_rng x9338; omega, by have := i_rng x9338; omega⟩ ⟨by have := i_rng x9257; omega, by have := i_rng x9257; omega⟩ ⟨by have := i_rng x9258; omega, by have := i_rng x9258; omega⟩ m9327 m9328 m9329 m9330 m9331 m9332 m9333 m9334 (CP.cast b9321 (by omega) (by omega) (by omega)) (CP.cast b9322 (by omega) (by omega) (by omega)) (CP.cast b9323 (by omega) (by omega) (by omega)) (CP.cast b9324 (by omega) (by omega) (by omega)) (CP.cast b9325 (by omega) (by omega) (by omega)) (CP.cast b9326 (by omega) (by omega) (by omega)) mf9317 g9318 g9319 g9320 (by omega) (by omega)
    have J152 : ∀ (nf : Nat) (ls9342 : Array Slot) (H9341 : Heap) (locsH9341 : List Loc) (x9344 : Int32) (x9345 : Int32) (x9346 : Int32), lv_has ls9342 7 [(0, .ref a0), (4, .int x9248), (5, .int x9249), (6, .int x9344)] → TY K G H9341 → va_S (AE G [112, 136, 137, 138, 129, 130, 131, 132, 133, 134, 135, 128] s.heap.size) s.heap H9341 locsH9341 → (0 ≤ x9344.toInt ∧ x9344.toInt ≤ 16) → (0 ≤ x9345.toInt ∧ x9345.toInt ≤ 500) → (0 ≤ x9346.toInt ∧ x9346.toInt ≤ 0) → (x9345 = fI H9341 a0 (K.1.2 10 35)) → (x9346 = fI H9341 a0 (K.1.2 10 18)) → (EQN oq (fR H9341 a0 (K.1.2 10 32))) → (EQN aq (fR H9341 a0 (K.1.2 10 33))) → (EQN f9 (fR H9341 a0 (K.1.2 10 29))) → (EQN f0 (fR H9341 a0 (K.1.2 10 30))) → (EQN f1 (fR H9341 a0 (K.1.2 10 31))) → (EQN mq (fR H9341 a0 (K.1.2 10 24))) → (CP (fun k => fI H9341 f9 k) (fun k => fI H9245 f9 k) (16 * x9249.toNatClampNeg) (96) (x9344.toNatClampNeg)) → (CP (fun k => fI H9341 f0 k) (fun k => fI H9245 f0 k) (16 * x9249.toNatClampNeg) (96) (x9344.toNatClampNeg)) → (CP (fun k => fI H9341 f1 k) (fun k => fI H9245 f1 k) (16 * x9249.toNatClampNeg) (96) (x9344.toNatClampNeg)) → (CP (fun k => fI H9341 oq k) (fun k => fI H9245 oq k) (500 * x9249.toNatClampNeg) (3000) (0)) → (CP (fun k => fI H9341 aq k) (fun k => fI H9245 aq k) (500 * x9249.toNatClampNeg) (3000) (0)) → (CP (fun k => fI H9341 mq k) (fun k => fI H9245 mq k) (0) (0) (0)) → (MF K s.heap H9341 a0 [0, 18, 19, 20, 21, 22, 34, 35, 36, 38, 39, 40, 41, 42]) → (TU (avw K H9341 a0) (svw K H9341 a0)) → (WD (avw K H9341 a0)) → (IM (avw K H9341 a0)) → (16 - x9344.toInt < (nf : Int)) → (x9345.toInt = x9250.toInt ∧ x9346.toInt = 0 ∧ x9344.toInt ≤ x9248.toInt) → W p l e ({ frames := 10, cells := 0, slots := 0, locals := 215 } : Room) s m (([.ref a0, .int x1, .int x2] : List Value).toArray) below meth c H9341 locsH9341 0 0 Q (F0 m 152 ls9342 []) := by
      intro nf
      induction nf with
      | zero =>
        intro ls9342 H9341 locsH9341 x9344 x9345 x9346 hl9343 hTH9341 hSH9341 bx9344 bx9345 bx9346 ex9345 ex9346 cy9347_0 cy9347_1 cy9347_2 cy9347_3 cy9347_4 cy9347_5 by9347_c9 by9347_c0 by9347_c1 by9347_co by9347_ca by9347_cm mfy9347 gy9347_TU gy9347_WD gy9347_IM hm152 iv152
        exfalso
        omega
      | succ nf ih152 =>
        intro ls9342 H9341 locsH9341 x9344 x9345 x9346 hl9343 hTH9341 hSH9341 bx9344 bx9345 bx9346 ex9345 ex9346 cy9347_0 cy9347_1 cy9347_2 cy9347_3 cy9347_4 cy9347_5 by9347_c9 by9347_c0 by9347_c1 by9347_co by9347_ca by9347_cm mfy9347 gy9347_TU gy9347_WD gy9347_IM hm152 iv152
        refine lv_iload hx hb dX10_text_152 (lv_at hl9343 3 rfl) ?_
        refine lv_iload hx hb dX10_text_154 (lv_at hl9343 1 rfl) ?_
        refine lv_icmp_ge (tgt := 326) hx hb dX10_text_156 (by decide) (fun c9348 => ?_) (fun c9348 => ?_)
        · have k9349 := i_le c9348
          refine lv_iconst (v := 0) hx hb dX10_text_326 (by decide) ?_
          refine lv_istore (lv' := [(6, .int 0), (0, .ref a0), (4, .int x9248), (5, .int x9249)]) hx hb dX10_text_327 hl9343 (by decide) rfl (fun ls9350 hl9351 => ?_)
          have cl00 : (0 : Int32).toNatClampNeg = 0 := rfl
          have cl_x9248 := i_cl (x := x9248) (by omega)
          have cl_x9249 := i_cl (x := x9249) (by omega)
          have cl_x9344 := i_cl (x := x9344) (by omega)
          have cl_0 := i_cl (x := (0 : Int32)) (by omega)
          have cl_0 := i_cl (x := (0 : Int32)) (by omega)
          exact J329 ((500 - (0 : Int32).toInt).toNat + 1) ls9350 H9341 locsH9341 (0) (x9345) (x9346) (lv_sub hl9351 [1, 2, 3, 0] rfl) hTH9341 hSH9341 (by decide) ⟨by have := i_rng x9345; omega, by have := i_rng x9345; omega⟩ ⟨by have := i_rng x9346; omega, by have := i_rng x9346; omega⟩ ex9345 ex9346 cy9347_0 cy9347_1 cy9347_2 cy9347_3 cy9347_4 cy9347_5 (CP.cast by9347_c9 (by omega) (by omega) (by omega)) (CP.cast by9347_c0 (by omega) (by omega) (by omega)) (CP.cast by9347_c1 (by omega) (by omega) (by omega)) (CP.cast by9347_co (by omega) (by omega) (by omega)) (CP.cast by9347_ca (by omega) (by omega) (by omega)) (CP.cast by9347_cm (by omega) (by omega) (by omega)) mfy9347 gy9347_TU gy9347_WD gy9347_IM (by omega) (by omega)
        · have k9349 := i_nle c9348
          have hrw : 0 ≤ x9249.toInt ∧ x9249.toInt ≤ 5 := ⟨by omega, by omega⟩
          have hlw : 0 ≤ x9344.toInt ∧ x9344.toInt ≤ 15 := ⟨by omega, by omega⟩
          refine lv_aload_n hx hb dX10_text_159 rfl (lv_at hl9343 0 rfl) ?_
          refine x_gr C hTH9341 (ci := 10) (k := 25) rfl inX10 (by decide) wF_X10_62 ga0 rg_112 rfl dX10_text_160 (fun q9352 eq9352 gq9352 => ?_)
          replace eq9352 := EQN.mk eq9352
          refine lv_bipush (v := 16) hx hb dX10_text_163 (by decide) ?_
          refine lv_iload hx hb dX10_text_165 (lv_at hl9343 2 rfl) ?_
          refine lv_imul hx hb dX10_text_167 ?_
          refine lv_topi (fun x9353 ex9353 => ?_)
          have tx9353 := i_mul ex9353 (by rw [n_16]; omega)
          rw [n_16] at tx9353
          refine lv_iload hx hb dX10_text_168 (lv_at hl9343 3 rfl) ?_
          refine lv_iadd hx hb dX10_text_170 ?_
          refine lv_topi (fun x9354 ex9354 => ?_)
          have tx9354 := i_add ex9354 (by omega)
          refine lv_aload_n hx hb dX10_text_171 rfl (lv_at hl9343 0 rfl) ?_
          refine x_gr C hTH9341 (ci := 10) (k := 25) rfl inX10 (by decide) wF_X10_62 ga0 rg_112 rfl dX10_text_172 (fun q9355 eq9355 gq9355 => ?_)
          have uq9355 : q9352 = q9355 := (eq9352).trans eq9355.symm
          subst uq9355
          clear eq9355
          refine lv_bipush (v := 96) hx hb dX10_text_175 (by decide) ?_
          refine lv_iload hx hb dX10_text_177 (lv_at hl9343 3 rfl) ?_
          refine lv_iadd hx hb dX10_text_179 ?_
          refine lv_topi (fun x9356 ex9356 => ?_)
          have tx9356 := i_add ex9356 (by omega)
          refine x_ai C hTH9341 gq9352 rg_129 ⟨by omega, by show _ < ((112 : Nat) : Int); omega⟩ dX10_text_180 (fun x9357 ex9357 bx9357 => ?_)
          refine x_iast C hTH9341 hSH9341 gq9352 rg_129 (by omega) (by show _ < ((112 : Nat) : Int); omega) ⟨by have := i_rng x9357; omega, by have := i_rng x9357; omega⟩ (AE_in gq9352 (by decide)) dX10_text_181 (fun H9358 locsH9358 hTH9358 hSH9358 wH9358 => ?_)
          have mf9359 : MF K s.heap H9358 a0 [0, 18, 19, 20, 21, 22, 34, 35, 36, 38, 39, 40, 41, 42] := MF.arr wH9358 (G_ne ga0 gq9352 (by decide)) mfy9347
          have g9360 : TU (avw K H9358 a0) (svw K H9358 a0) := TU.congr (fun k hk j => av_arr hTH9341 ga0 wH9358 gq9352 (by decide) (TU_ok 129 (by decide) k hk)) (fun k hk => sv_arr ga0 wH9358 gq9352 (by decide)) gy9347_TU
          have g9361 : WD (avw K H9358 a0) := WD.congr (fun k hk j => av_arr hTH9341 ga0 wH9358 gq9352 (by decide) (WD_ok 129 (by decide) k hk)) gy9347_WD
          have g9362 : IM (avw K H9358 a0) := IM.congr (fun k hk j => av_arr hTH9341 ga0 wH9358 gq9352 (by decide) (IM_ok 129 (by decide) k hk)) gy9347_IM
          have b9363 : CP (fun k => fI H9358 f9 k) (fun k => fI H9245 f9 k) (16 * x9249.toNatClampNeg) (96) (x9344.toNatClampNeg) := CP.congr (fun j => Wr.neI wH9358 (Or.inl (G_ne gf9 gq9352 (by decide)))) by9347_c9
          have b9364 : CP (fun k => fI H9358 f0 k) (fun k => fI H9245 f0 k) (16 * x9249.toNatClampNeg) (96) (x9344.toNatClampNeg) := CP.congr (fun j => Wr.neI wH9358 (Or.inl (G_ne gf0 gq9352 (by decide)))) by9347_c0
          have b9365 : CP (fun k => fI H9358 f1 k) (fun k => fI H9245 f1 k) (16 * x9249.toNatClampNeg) (96) (x9344.toNatClampNeg) := CP.congr (fun j => Wr.neI wH9358 (Or.inl (G_ne gf1 gq9352 (by decide)))) by9347_c1
          have b9366 : CP (fun k => fI H9358 oq k) (fun k => fI H9245 oq k) (500 * x9249.toNatClampNeg) (3000) (0) := CP.congr (fun j => Wr.neI wH9358 (Or.inl (G_ne goq gq9352 (by decide)))) by9347_co
          have b9367 : CP (fun k => fI H9358 aq k) (fun k => fI H9245 aq k) (500 * x9249.toNatClampNeg) (3000) (0) := CP.congr (fun j => Wr.neI wH9358 (Or.inl (G_ne gaq gq9352 (by decide)))) by9347_ca
          have b9368 : CP (fun k => fI H9358 mq k) (fun k => fI H9245 mq k) (0) (0) (0) := CP.congr (fun j => Wr.neI wH9358 (Or.inl (G_ne gmq gq9352 (by decide)))) by9347_cm
          have m9369 := ex9345.trans (Wr.neI wH9358 (Or.inl (G_ne ga0 gq9352 (by decide)))).symm
          have m9370 := ex9346.trans (Wr.neI wH9358 (Or.inl (G_ne ga0 gq9352 (by decide)))).symm
          have m9371 := cy9347_0.trans (Wr.neR wH9358 (Or.inl (G_ne ga0 gq9352 (by decide)))).symm
          have m9372 := cy9347_1.trans (Wr.neR wH9358 (Or.inl (G_ne ga0 gq9352 (by decide)))).symm
          have m9373 := cy9347_2.trans (Wr.neR wH9358 (Or.inl (G_ne ga0 gq9352 (by decide)))).symm
          have m9374 := cy9347_3.trans (Wr.neR wH9358 (Or.inl (G_ne ga0 gq9352 (by decide)))).symm
          have m9375 := cy9347_4.trans (Wr.neR wH9358 (Or.inl (G_ne ga0 gq9352 (by decide)))).symm
          have m9376 := cy9347_5.trans (Wr.neR wH9358 (Or.inl (G_ne ga0 gq9352 (by decide)))).symm
          have m9377 := eq9352.trans (Wr.neR wH9358 (Or.inl (G_ne ga0 gq9352 (by decide)))).symm
          have m9379 := Wr.I wH9358
          have m9379 := m9379.symm
          clear by9347_c0 by9347_c1 by9347_c9 by9347_ca by9347_cm by9347_co cy9347_0 cy9347_1 cy9347_2 cy9347_3 cy9347_4 cy9347_5 eq9352 ex9345 ex9346 ex9357 gy9347_IM gy9347_TU gy9347_WD hTH9341 mfy9347
          clear tx9353 tx9354 tx9356 bx9357 ex9353 ex9354 ex9356
          refine lv_aload_n hx hb dX10_text_182 rfl (lv_at hl9343 0 rfl) ?_
          refine x_gr C hTH9358 (ci := 10) (k := 26) rfl inX10 (by decide) wF_X10_65 ga0 rg_112 rfl dX10_text_183 (fun q9380 eq9380 gq9380 => ?_)
          replace eq9380 := EQN.mk eq9380
          refine lv_bipush (v := 16) hx hb dX10_text_186 (by decide) ?_
          refine lv_iload hx hb dX10_text_188 (lv_at hl9343 2 rfl) ?_
          refine lv_imul hx hb dX10_text_190 ?_
          refine lv_topi (fun x9381 ex9381 => ?_)
          have tx9381 := i_mul ex9381 (by rw [n_16]; omega)
          rw [n_16] at tx9381
          refine lv_iload hx hb dX10_text_191 (lv_at hl9343 3 rfl) ?_
          refine lv_iadd hx hb dX10_text_193 ?_
          refine lv_topi (fun x9382 ex9382 => ?_)
          have tx9382 := i_add ex9382 (by omega)
          refine lv_aload_n hx hb dX10_text_194 rfl (lv_at hl9343 0 rfl) ?_
          refine x_gr C hTH9358 (ci := 10) (k := 26) rfl inX10 (by decide) wF_X10_65 ga0 rg_112 rfl dX10_text_195 (fun q9383 eq9383 gq9383 => ?_)
          have uq9383 : q9380 = q9383 := (eq9380).trans eq9383.symm
          subst uq9383
          clear eq9383
          refine lv_bipush (v := 96) hx hb dX10_text_198 (by decide) ?_
          refine lv_iload hx hb dX10_text_200 (lv_at hl9343 3 rfl) ?_
          refine lv_iadd hx hb dX10_text_202 ?_
          refine lv_topi (fun x9384 ex9384 => ?_)
          have tx9384 := i_add ex9384 (by omega)
          refine x_ai C hTH9358 gq9380 rg_130 ⟨by omega, by show _ < ((112 : Nat) : Int); omega⟩ dX10_text_203 (fun x9385 ex9385 bx9385 => ?_)
          refine x_iast C hTH9358 hSH9358 gq9380 rg_130 (by omega) (by show _ < ((112 : Nat) : Int); omega) ⟨by have := i_rng x9385; omega, by have := i_rng x9385; omega⟩ (AE_in gq9380 (by decide)) dX10_text_204 (fun H9386 locsH9386 hTH9386 hSH9386 wH9386 => ?_)
          have mf9387 : MF K s.heap H9386 a0 [0, 18, 19, 20, 21, 22, 34, 35, 36, 38, 39, 40, 41, 42] := MF.arr wH9386 (G_ne ga0 gq9380 (by decide)) mf9359
          have g9388 : TU (avw K H9386 a0) (svw K H9386 a0) := TU.congr (fun k hk j => av_arr hTH9358 ga0 wH9386 gq9380 (by decide) (TU_ok 130 (by decide) k hk)) (fun k hk => sv_arr ga0 wH9386 gq9380 (by decide)) g9360
          have g9389 : WD (avw K H9386 a0) := WD.congr (fun k hk j => av_arr hTH9358 ga0 wH9386 gq9380 (by decide) (WD_ok 130 (by decide) k hk)) g9361
          have g9390 : IM (avw K H9386 a0) := IM.congr (fun k hk j => av_arr hTH9358 ga0 wH9386 gq9380 (by decide) (IM_ok 130 (by decide) k hk)) g9362
          have b9391 : CP (fun k => fI H9386 f9 k) (fun k => fI H9245 f9 k) (16 * x9249.toNatClampNeg) (96) (x9344.toNatClampNeg) := CP.congr (fun j => Wr.neI wH9386 (Or.inl (G_ne gf9 gq9380 (by decide)))) b9363
          have b9392 : CP (fun k => fI H9386 f0 k) (fun k => fI H9245 f0 k) (16 * x9249.toNatClampNeg) (96) (x9344.toNatClampNeg) := CP.congr (fun j => Wr.neI wH9386 (Or.inl (G_ne gf0 gq9380 (by decide)))) b9364
          have b9393 : CP (fun k => fI H9386 f1 k) (fun k => fI H9245 f1 k) (16 * x9249.toNatClampNeg) (96) (x9344.toNatClampNeg) := CP.congr (fun j => Wr.neI wH9386 (Or.inl (G_ne gf1 gq9380 (by decide)))) b9365
          have b9394 : CP (fun k => fI H9386 oq k) (fun k => fI H9245 oq k) (500 * x9249.toNatClampNeg) (3000) (0) := CP.congr (fun j => Wr.neI wH9386 (Or.inl (G_ne goq gq9380 (by decide)))) b9366
          have b9395 : CP (fun k => fI H9386 aq k) (fun k => fI H9245 aq k) (500 * x9249.toNatClampNeg) (3000) (0) := CP.congr (fun j => Wr.neI wH9386 (Or.inl (G_ne gaq gq9380 (by decide)))) b9367
          have b9396 : CP (fun k => fI H9386 mq k) (fun k => fI H9245 mq k) (0) (0) (0) := CP.congr (fun j => Wr.neI wH9386 (Or.inl (G_ne gmq gq9380 (by decide)))) b9368
          have m9397 := m9369.trans (Wr.neI wH9386 (Or.inl (G_ne ga0 gq9380 (by decide)))).symm
          have m9398 := m9370.trans (Wr.neI wH9386 (Or.inl (G_ne ga0 gq9380 (by decide)))).symm
          have m9399 := m9371.trans (Wr.neR wH9386 (Or.inl (G_ne ga0 gq9380 (by decide)))).symm
          have m9400 := m9372.trans (Wr.neR wH9386 (Or.inl (G_ne ga0 gq9380 (by decide)))).symm
          have m9401 := m9373.trans (Wr.neR wH9386 (Or.inl (G_ne ga0 gq9380 (by decide)))).symm
          have m9402 := m9374.trans (Wr.neR wH9386 (Or.inl (G_ne ga0 gq9380 (by decide)))).symm
          have m9403 := m9375.trans (Wr.neR wH9386 (Or.inl (G_ne ga0 gq9380 (by decide)))).symm
          have m9404 := m9376.trans (Wr.neR wH9386 (Or.inl (G_ne ga0 gq9380 (by decide)))).symm
          have m9405 := m9377.trans (Wr.neR wH9386 (Or.inl (G_ne ga0 gq9380 (by decide)))).symm
          have m9406 := m9379.trans (Wr.neI wH9386 (Or.inl (G_ne gq9352 gq9380 (by decide)))).symm
          have m9407 := eq9380.trans (Wr.neR wH9386 (Or.inl (G_ne ga0 gq9380 (by decide)))).symm
          have m9409 := Wr.I wH9386
          have m9409 := m9409.symm
          clear b9363 b9364 b9365 b9366 b9367 b9368 eq9380 ex9385 g9360 g9361 g9362 hTH9358 m9369 m9370 m9371 m9372 m9373 m9374 m9375 m9376 m9377 m9379 mf9359
          clear tx9381 tx9382 tx9384 bx9385 ex9381 ex9382 ex9384
          refine lv_aload_n hx hb dX10_text_205 rfl (lv_at hl9343 0 rfl) ?_
          refine x_gr C hTH9386 (ci := 10) (k := 27) rfl inX10 (by decide) wF_X10_68 ga0 rg_112 rfl dX10_text_206 (fun q9410 eq9410 gq9410 => ?_)
          replace eq9410 := EQN.mk eq9410
          refine lv_bipush (v := 16) hx hb dX10_text_209 (by decide) ?_
          refine lv_iload hx hb dX10_text_211 (lv_at hl9343 2 rfl) ?_
          refine lv_imul hx hb dX10_text_213 ?_
          refine lv_topi (fun x9411 ex9411 => ?_)
          have tx9411 := i_mul ex9411 (by rw [n_16]; omega)
          rw [n_16] at tx9411
          refine lv_iload hx hb dX10_text_214 (lv_at hl9343 3 rfl) ?_
          refine lv_iadd hx hb dX10_text_216 ?_
          refine lv_topi (fun x9412 ex9412 => ?_)
          have tx9412 := i_add ex9412 (by omega)
          refine lv_aload_n hx hb dX10_text_217 rfl (lv_at hl9343 0 rfl) ?_
          refine x_gr C hTH9386 (ci := 10) (k := 27) rfl inX10 (by decide) wF_X10_68 ga0 rg_112 rfl dX10_text_218 (fun q9413 eq9413 gq9413 => ?_)
          have uq9413 : q9410 = q9413 := (eq9410).trans eq9413.symm
          subst uq9413
          clear eq9413
          refine lv_bipush (v := 96) hx hb dX10_text_221 (by decide) ?_
          refine lv_iload hx hb dX10_text_223 (lv_at hl9343 3 rfl) ?_
          refine lv_iadd hx hb dX10_text_225 ?_
          refine lv_topi (fun x9414 ex9414 => ?_)
          have tx9414 := i_add ex9414 (by omega)
          refine x_ai C hTH9386 gq9410 rg_131 ⟨by omega, by show _ < ((112 : Nat) : Int); omega⟩ dX10_text_226 (fun x9415 ex9415 bx9415 => ?_)
          refine x_iast C hTH9386 hSH9386 gq9410 rg_131 (by omega) (by show _ < ((112 : Nat) : Int); omega) ⟨by have := i_rng x9415; omega, by have := i_rng x9415; omega⟩ (AE_in gq9410 (by decide)) dX10_text_227 (fun H9416 locsH9416 hTH9416 hSH9416 wH9416 => ?_)
          have mf9417 : MF K s.heap H9416 a0 [0, 18, 19, 20, 21, 22, 34, 35, 36, 38, 39, 40, 41, 42] := MF.arr wH9416 (G_ne ga0 gq9410 (by decide)) mf9387
          have g9418 : TU (avw K H9416 a0) (svw K H9416 a0) := TU.congr (fun k hk j => av_arr hTH9386 ga0 wH9416 gq9410 (by decide) (TU_ok 131 (by decide) k hk)) (fun k hk => sv_arr ga0 wH9416 gq9410 (by decide)) g9388
          have g9419 : WD (avw K H9416 a0) := WD.congr (fun k hk j => av_arr hTH9386 ga0 wH9416 gq9410 (by decide) (WD_ok 131 (by decide) k hk)) g9389
          have g9420 : IM (avw K H9416 a0) := IM.congr (fun k hk j => av_arr hTH9386 ga0 wH9416 gq9410 (by decide) (IM_ok 131 (by decide) k hk)) g9390
          have b9421 : CP (fun k => fI H9416 f9 k) (fun k => fI H9245 f9 k) (16 * x9249.toNatClampNeg) (96) (x9344.toNatClampNeg) := CP.congr (fun j => Wr.neI wH9416 (Or.inl (G_ne gf9 gq9410 (by decide)))) b9391
          have b9422 : CP (fun k => fI H9416 f0 k) (fun k => fI H9245 f0 k) (16 * x9249.toNatClampNeg) (96) (x9344.toNatClampNeg) := CP.congr (fun j => Wr.neI wH9416 (Or.inl (G_ne gf0 gq9410 (by decide)))) b9392
          have b9423 : CP (fun k => fI H9416 f1 k) (fun k => fI H9245 f1 k) (16 * x9249.toNatClampNeg) (96) (x9344.toNatClampNeg) := CP.congr (fun j => Wr.neI wH9416 (Or.inl (G_ne gf1 gq9410 (by decide)))) b9393
          have b9424 : CP (fun k => fI H9416 oq k) (fun k => fI H9245 oq k) (500 * x9249.toNatClampNeg) (3000) (0) := CP.congr (fun j => Wr.neI wH9416 (Or.inl (G_ne goq gq9410 (by decide)))) b9394
          have b9425 : CP (fun k => fI H9416 aq k) (fun k => fI H9245 aq k) (500 * x9249.toNatClampNeg) (3000) (0) := CP.congr (fun j => Wr.neI wH9416 (Or.inl (G_ne gaq gq9410 (by decide)))) b9395
          have b9426 : CP (fun k => fI H9416 mq k) (fun k => fI H9245 mq k) (0) (0) (0) := CP.congr (fun j => Wr.neI wH9416 (Or.inl (G_ne gmq gq9410 (by decide)))) b9396
          have m9427 := m9397.trans (Wr.neI wH9416 (Or.inl (G_ne ga0 gq9410 (by decide)))).symm
          have m9428 := m9398.trans (Wr.neI wH9416 (Or.inl (G_ne ga0 gq9410 (by decide)))).symm
          have m9429 := m9399.trans (Wr.neR wH9416 (Or.inl (G_ne ga0 gq9410 (by decide)))).symm
          have m9430 := m9400.trans (Wr.neR wH9416 (Or.inl (G_ne ga0 gq9410 (by decide)))).symm
          have m9431 := m9401.trans (Wr.neR wH9416 (Or.inl (G_ne ga0 gq9410 (by decide)))).symm
          have m9432 := m9402.trans (Wr.neR wH9416 (Or.inl (G_ne ga0 gq9410 (by decide)))).symm
          have m9433 := m9403.trans (Wr.neR wH9416 (Or.inl (G_ne ga0 gq9410 (by decide)))).symm
          have m9434 := m9404.trans (Wr.neR wH9416 (Or.inl (G_ne ga0 gq9410 (by decide)))).symm
          have m9435 := m9405.trans (Wr.neR wH9416 (Or.inl (G_ne ga0 gq9410 (by decide)))).symm
          have m9436 := m9406.trans (Wr.neI wH9416 (Or.inl (G_ne gq9352 gq9410 (by decide)))).symm
          have m9437 := m9407.trans (Wr.neR wH9416 (Or.inl (G_ne ga0 gq9410 (by decide)))).symm
          have m9438 := m9409.trans (Wr.neI wH9416 (Or.inl (G_ne gq9380 gq9410 (by decide)))).symm
          have m9439 := eq9410.trans (Wr.neR wH9416 (Or.inl (G_ne ga0 gq9410 (by decide)))).symm
          have m9441 := Wr.I wH9416
          have m9441 := m9441.symm
          clear b9391 b9392 b9393 b9394 b9395 b9396 eq9410 ex9415 g9388 g9389 g9390 hTH9386 m9397 m9398 m9399 m9400 m9401 m9402 m9403 m9404 m9405 m9406 m9407 m9409 mf9387
          clear tx9411 tx9412 tx9414 bx9415 ex9411 ex9412 ex9414
          refine lv_aload_n hx hb dX10_text_228 rfl (lv_at hl9343 0 rfl) ?_
          refine x_gr C hTH9416 (ci := 10) (k := 28) rfl inX10 (by decide) wF_X10_71 ga0 rg_112 rfl dX10_text_229 (fun q9442 eq9442 gq9442 => ?_)
          replace eq9442 := EQN.mk eq9442
          refine lv_bipush (v := 16) hx hb dX10_text_232 (by decide) ?_
          refine lv_iload hx hb dX10_text_234 (lv_at hl9343 2 rfl) ?_
          refine lv_imul hx hb dX10_text_236 ?_
          refine lv_topi (fun x9443 ex9443 => ?_)
          have tx9443 := i_mul ex9443 (by rw [n_16]; omega)
          rw [n_16] at tx9443
          refine lv_iload hx hb dX10_text_237 (lv_at hl9343 3 rfl) ?_
          refine lv_iadd hx hb dX10_text_239 ?_
          refine lv_topi (fun x9444 ex9444 => ?_)
          have tx9444 := i_add ex9444 (by omega)
          refine lv_aload_n hx hb dX10_text_240 rfl (lv_at hl9343 0 rfl) ?_
          refine x_gr C hTH9416 (ci := 10) (k := 28) rfl inX10 (by decide) wF_X10_71 ga0 rg_112 rfl dX10_text_241 (fun q9445 eq9445 gq9445 => ?_)
          have uq9445 : q9442 = q9445 := (eq9442).trans eq9445.symm
          subst uq9445
          clear eq9445
          refine lv_bipush (v := 96) hx hb dX10_text_244 (by decide) ?_
          refine lv_iload hx hb dX10_text_246 (lv_at hl9343 3 rfl) ?_
          refine lv_iadd hx hb dX10_text_248 ?_
          refine lv_topi (fun x9446 ex9446 => ?_)
          have tx9446 := i_add ex9446 (by omega)
          refine x_ai C hTH9416 gq9442 rg_132 ⟨by omega, by show _ < ((112 : Nat) : Int); omega⟩ dX10_text_249 (fun x9447 ex9447 bx9447 => ?_)
          refine x_iast C hTH9416 hSH9416 gq9442 rg_132 (by omega) (by show _ < ((112 : Nat) : Int); omega) ⟨by have := i_rng x9447; omega, by have := i_rng x9447; omega⟩ (AE_in gq9442 (by decide)) dX10_text_250 (fun H9448 locsH9448 hTH9448 hSH9448 wH9448 => ?_)
          have mf9449 : MF K s.heap H9448 a0 [0, 18, 19, 20, 21, 22, 34, 35, 36, 38, 39, 40, 41, 42] := MF.arr wH9448 (G_ne ga0 gq9442 (by decide)) mf9417
          have g9450 : TU (avw K H9448 a0) (svw K H9448 a0) := TU.congr (fun k hk j => av_arr hTH9416 ga0 wH9448 gq9442 (by decide) (TU_ok 132 (by decide) k hk)) (fun k hk => sv_arr ga0 wH9448 gq9442 (by decide)) g9418
          have g9451 : WD (avw K H9448 a0) := WD.congr (fun k hk j => av_arr hTH9416 ga0 wH9448 gq9442 (by decide) (WD_ok 132 (by decide) k hk)) g9419
          have g9452 : IM (avw K H9448 a0) := IM.congr (fun k hk j => av_arr hTH9416 ga0 wH9448 gq9442 (by decide) (IM_ok 132 (by decide) k hk)) g9420
          have b9453 : CP (fun k => fI H9448 f9 k) (fun k => fI H9245 f9 k) (16 * x9249.toNatClampNeg) (96) (x9344.toNatClampNeg) := CP.congr (fun j => Wr.neI wH9448 (Or.inl (G_ne gf9 gq9442 (by decide)))) b9421
          have b9454 : CP (fun k => fI H9448 f0 k) (fun k => fI H9245 f0 k) (16 * x9249.toNatClampNeg) (96) (x9344.toNatClampNeg) := CP.congr (fun j => Wr.neI wH9448 (Or.inl (G_ne gf0 gq9442 (by decide)))) b9422
          have b9455 : CP (fun k => fI H9448 f1 k) (fun k => fI H9245 f1 k) (16 * x9249.toNatClampNeg) (96) (x9344.toNatClampNeg) := CP.congr (fun j => Wr.neI wH9448 (Or.inl (G_ne gf1 gq9442 (by decide)))) b9423
          have b9456 : CP (fun k => fI H9448 oq k) (fun k => fI H9245 oq k) (500 * x9249.toNatClampNeg) (3000) (0) := CP.congr (fun j => Wr.neI wH9448 (Or.inl (G_ne goq gq9442 (by decide)))) b9424
          have b9457 : CP (fun k => fI H9448 aq k) (fun k => fI H9245 aq k) (500 * x9249.toNatClampNeg) (3000) (0) := CP.congr (fun j => Wr.neI wH9448 (Or.inl (G_ne gaq gq9442 (by decide)))) b9425
          have b9458 : CP (fun k => fI H9448 mq k) (fun k => fI H9245 mq k) (0) (0) (0) := CP.congr (fun j => Wr.neI wH9448 (Or.inl (G_ne gmq gq9442 (by decide)))) b9426
          have m9459 := m9427.trans (Wr.neI wH9448 (Or.inl (G_ne ga0 gq9442 (by decide)))).symm
          have m9460 := m9428.trans (Wr.neI wH9448 (Or.inl (G_ne ga0 gq9442 (by decide)))).symm
          have m9461 := m9429.trans (Wr.neR wH9448 (Or.inl (G_ne ga0 gq9442 (by decide)))).symm
          have m9462 := m9430.trans (Wr.neR wH9448 (Or.inl (G_ne ga0 gq9442 (by decide)))).symm
          have m9463 := m9431.trans (Wr.neR wH9448 (Or.inl (G_ne ga0 gq9442 (by decide)))).symm
          have m9464 := m9432.trans (Wr.neR wH9448 (Or.inl (G_ne ga0 gq9442 (by decide)))).symm
          have m9465 := m9433.trans (Wr.neR wH9448 (Or.inl (G_ne ga0 gq9442 (by decide)))).symm
          have m9466 := m9434.trans (Wr.neR wH9448 (Or.inl (G_ne ga0 gq9442 (by decide)))).symm
          have m9467 := m9435.trans (Wr.neR wH9448 (Or.inl (G_ne ga0 gq9442 (by decide)))).symm
          have m9468 := m9436.trans (Wr.neI wH9448 (Or.inl (G_ne gq9352 gq9442 (by decide)))).symm
          have m9469 := m9437.trans (Wr.neR wH9448 (Or.inl (G_ne ga0 gq9442 (by decide)))).symm
          have m9470 := m9438.trans (Wr.neI wH9448 (Or.inl (G_ne gq9380 gq9442 (by decide)))).symm
          have m9471 := m9439.trans (Wr.neR wH9448 (Or.inl (G_ne ga0 gq9442 (by decide)))).symm
          have m9472 := m9441.trans (Wr.neI wH9448 (Or.inl (G_ne gq9410 gq9442 (by decide)))).symm
          have m9473 := eq9442.trans (Wr.neR wH9448 (Or.inl (G_ne ga0 gq9442 (by decide)))).symm
          have m9475 := Wr.I wH9448
          have m9475 := m9475.symm
          clear b9421 b9422 b9423 b9424 b9425 b9426 eq9442 ex9447 g9418 g9419 g9420 hTH9416 m9427 m9428 m9429 m9430 m9431 m9432 m9433 m9434 m9435 m9436 m9437 m9438 m9439 m9441 mf9417
          clear tx9443 tx9444 tx9446 bx9447 ex9443 ex9444 ex9446
          refine lv_aload_n hx hb dX10_text_251 rfl (lv_at hl9343 0 rfl) ?_
          refine x_gr C hTH9448 (ci := 10) (k := 29) rfl inX10 (by decide) wF_X10_74 ga0 rg_112 rfl dX10_text_252 (fun q9476 eq9476 gq9476 => ?_)
          have uq9476 : f9 = q9476 := (m9463).trans eq9476.symm
          subst uq9476
          clear eq9476
          refine lv_bipush (v := 16) hx hb dX10_text_255 (by decide) ?_
          refine lv_iload hx hb dX10_text_257 (lv_at hl9343 2 rfl) ?_
          refine lv_imul hx hb dX10_text_259 ?_
          refine lv_topi (fun x9477 ex9477 => ?_)
          have tx9477 := i_mul ex9477 (by rw [n_16]; omega)
          rw [n_16] at tx9477
          refine lv_iload hx hb dX10_text_260 (lv_at hl9343 3 rfl) ?_
          refine lv_iadd hx hb dX10_text_262 ?_
          refine lv_topi (fun x9478 ex9478 => ?_)
          have tx9478 := i_add ex9478 (by omega)
          refine lv_aload_n hx hb dX10_text_263 rfl (lv_at hl9343 0 rfl) ?_
          refine x_gr C hTH9448 (ci := 10) (k := 29) rfl inX10 (by decide) wF_X10_74 ga0 rg_112 rfl dX10_text_264 (fun q9479 eq9479 gq9479 => ?_)
          have uq9479 : f9 = q9479 := (m9463).trans eq9479.symm
          subst uq9479
          clear eq9479
          refine lv_bipush (v := 96) hx hb dX10_text_267 (by decide) ?_
          refine lv_iload hx hb dX10_text_269 (lv_at hl9343 3 rfl) ?_
          refine lv_iadd hx hb dX10_text_271 ?_
          refine lv_topi (fun x9480 ex9480 => ?_)
          have tx9480 := i_add ex9480 (by omega)
          refine x_ai C hTH9448 gf9 rg_133 ⟨by omega, by show _ < ((112 : Nat) : Int); omega⟩ dX10_text_272 (fun x9481 ex9481 bx9481 => ?_)
          refine x_iast C hTH9448 hSH9448 gf9 rg_133 (by omega) (by show _ < ((112 : Nat) : Int); omega) ⟨by have := i_rng x9481; omega, by have := i_rng x9481; omega⟩ (AE_in gf9 (by decide)) dX10_text_273 (fun H9482 locsH9482 hTH9482 hSH9482 wH9482 => ?_)
          have mf9483 : MF K s.heap H9482 a0 [0, 18, 19, 20, 21, 22, 34, 35, 36, 38, 39, 40, 41, 42] := MF.arr wH9482 (G_ne ga0 gf9 (by decide)) mf9449
          have g9484 : TU (avw K H9482 a0) (svw K H9482 a0) := TU.congr (fun k hk j => av_arr hTH9448 ga0 wH9482 gf9 (by decide) (TU_ok 133 (by decide) k hk)) (fun k hk => sv_arr ga0 wH9482 gf9 (by decide)) g9450
          have g9485 : WD (avw K H9482 a0) := WD.congr (fun k hk j => av_arr hTH9448 ga0 wH9482 gf9 (by decide) (WD_ok 133 (by decide) k hk)) g9451
          have g9486 : IM (avw K H9482 a0) := IM.congr (fun k hk j => av_arr hTH9448 ga0 wH9482 gf9 (by decide) (IM_ok 133 (by decide) k hk)) g9452
          have b9487 : CP (fun k => fI H9482 f9 k) (fun k => fI H9245 f9 k) (16 * x9249.toNatClampNeg) (96) (x9344.toNatClampNeg + 1) := CP.step b9453 (i := x9478.toNatClampNeg) (k := x9480.toNatClampNeg) (x := x9481) (ix16 tx9477 tx9478 hrw.1 hlw.1) (le16 hrw hlw) (ixk n_96 tx9480 hlw.1) ex9481 (Wr.I wH9482) (fun j hj => Wr.neI wH9482 (Or.inr hj))
          have b9488 : CP (fun k => fI H9482 f0 k) (fun k => fI H9245 f0 k) (16 * x9249.toNatClampNeg) (96) (x9344.toNatClampNeg) := CP.congr (fun j => Wr.neI wH9482 (Or.inl (G_ne gf0 gf9 (by decide)))) b9454
          have b9489 : CP (fun k => fI H9482 f1 k) (fun k => fI H9245 f1 k) (16 * x9249.toNatClampNeg) (96) (x9344.toNatClampNeg) := CP.congr (fun j => Wr.neI wH9482 (Or.inl (G_ne gf1 gf9 (by decide)))) b9455
          have b9490 : CP (fun k => fI H9482 oq k) (fun k => fI H9245 oq k) (500 * x9249.toNatClampNeg) (3000) (0) := CP.congr (fun j => Wr.neI wH9482 (Or.inl (G_ne goq gf9 (by decide)))) b9456
          have b9491 : CP (fun k => fI H9482 aq k) (fun k => fI H9245 aq k) (500 * x9249.toNatClampNeg) (3000) (0) := CP.congr (fun j => Wr.neI wH9482 (Or.inl (G_ne gaq gf9 (by decide)))) b9457
          have b9492 : CP (fun k => fI H9482 mq k) (fun k => fI H9245 mq k) (0) (0) (0) := CP.congr (fun j => Wr.neI wH9482 (Or.inl (G_ne gmq gf9 (by decide)))) b9458
          have m9493 := m9459.trans (Wr.neI wH9482 (Or.inl (G_ne ga0 gf9 (by decide)))).symm
          have m9494 := m9460.trans (Wr.neI wH9482 (Or.inl (G_ne ga0 gf9 (by decide)))).symm
          have m9495 := m9461.trans (Wr.neR wH9482 (Or.inl (G_ne ga0 gf9 (by decide)))).symm
          have m9496 := m9462.trans (Wr.neR wH9482 (Or.inl (G_ne ga0 gf9 (by decide)))).symm
          have m9497 := m9463.trans (Wr.neR wH9482 (Or.inl (G_ne ga0 gf9 (by decide)))).symm
          have m9498 := m9464.trans (Wr.neR wH9482 (Or.inl (G_ne ga0 gf9 (by decide)))).symm
          have m9499 := m9465.trans (Wr.neR wH9482 (Or.inl (G_ne ga0 gf9 (by decide)))).symm
          have m9500 := m9466.trans (Wr.neR wH9482 (Or.inl (G_ne ga0 gf9 (by decide)))).symm
          have m9501 := m9467.trans (Wr.neR wH9482 (Or.inl (G_ne ga0 gf9 (by decide)))).symm
          have m9502 := m9468.trans (Wr.neI wH9482 (Or.inl (G_ne gq9352 gf9 (by decide)))).symm
          have m9503 := m9469.trans (Wr.neR wH9482 (Or.inl (G_ne ga0 gf9 (by decide)))).symm
          have m9504 := m9470.trans (Wr.neI wH9482 (Or.inl (G_ne gq9380 gf9 (by decide)))).symm
          have m9505 := m9471.trans (Wr.neR wH9482 (Or.inl (G_ne ga0 gf9 (by decide)))).symm
          have m9506 := m9472.trans (Wr.neI wH9482 (Or.inl (G_ne gq9410 gf9 (by decide)))).symm
          have m9507 := m9473.trans (Wr.neR wH9482 (Or.inl (G_ne ga0 gf9 (by decide)))).symm
          have m9508 := m9475.trans (Wr.neI wH9482 (Or.inl (G_ne gq9442 gf9 (by decide)))).symm
          have m9510 := Wr.I wH9482
          have m9510 := m9510.symm
          clear b9453 b9454 b9455 b9456 b9457 b9458 ex9481 g9450 g9451 g9452 hTH9448 m9459 m9460 m9461 m9462 m9463 m9464 m9465 m9466 m9467 m9468 m9469 m9470 m9471 m9472 m9473 m9475 mf9449
          clear tx9477 tx9478 tx9480 bx9481 ex9477 ex9478 ex9480
          refine lv_aload_n hx hb dX10_text_274 rfl (lv_at hl9343 0 rfl) ?_
          refine x_gr C hTH9482 (ci := 10) (k := 30) rfl inX10 (by decide) wF_X10_77 ga0 rg_112 rfl dX10_text_275 (fun q9511 eq9511 gq9511 => ?_)
          have uq9511 : f0 = q9511 := (m9498).trans eq9511.symm
          subst uq9511
          clear eq9511
          refine lv_bipush (v := 16) hx hb dX10_text_278 (by decide) ?_
          refine lv_iload hx hb dX10_text_280 (lv_at hl9343 2 rfl) ?_
          refine lv_imul hx hb dX10_text_282 ?_
          refine lv_topi (fun x9512 ex9512 => ?_)
          have tx9512 := i_mul ex9512 (by rw [n_16]; omega)
          rw [n_16] at tx9512
          refine lv_iload hx hb dX10_text_283 (lv_at hl9343 3 rfl) ?_
          refine lv_iadd hx hb dX10_text_285 ?_
          refine lv_topi (fun x9513 ex9513 => ?_)
          have tx9513 := i_add ex9513 (by omega)
          refine lv_aload_n hx hb dX10_text_286 rfl (lv_at hl9343 0 rfl) ?_
          refine x_gr C hTH9482 (ci := 10) (k := 30) rfl inX10 (by decide) wF_X10_77 ga0 rg_112 rfl dX10_text_287 (fun q9514 eq9514 gq9514 => ?_)
          have uq9514 : f0 = q9514 := (m9498).trans eq9514.symm
          subst uq9514
          clear eq9514
          refine lv_bipush (v := 96) hx hb dX10_text_290 (by decide) ?_
          refine lv_iload hx hb dX10_text_292 (lv_at hl9343 3 rfl) ?_
          refine lv_iadd hx hb dX10_text_294 ?_
          refine lv_topi (fun x9515 ex9515 => ?_)
          have tx9515 := i_add ex9515 (by omega)
          refine x_ai C hTH9482 gf0 rg_134 ⟨by omega, by show _ < ((112 : Nat) : Int); omega⟩ dX10_text_295 (fun x9516 ex9516 bx9516 => ?_)
          refine x_iast C hTH9482 hSH9482 gf0 rg_134 (by omega) (by show _ < ((112 : Nat) : Int); omega) ⟨by have := i_rng x9516; omega, by have := i_rng x9516; omega⟩ (AE_in gf0 (by decide)) dX10_text_296 (fun H9517 locsH9517 hTH9517 hSH9517 wH9517 => ?_)
          have mf9518 : MF K s.heap H9517 a0 [0, 18, 19, 20, 21, 22, 34, 35, 36, 38, 39, 40, 41, 42] := MF.arr wH9517 (G_ne ga0 gf0 (by decide)) mf9483
          have g9519 : TU (avw K H9517 a0) (svw K H9517 a0) := TU.congr (fun k hk j => av_arr hTH9482 ga0 wH9517 gf0 (by decide) (TU_ok 134 (by decide) k hk)) (fun k hk => sv_arr ga0 wH9517 gf0 (by decide)) g9484
          have g9520 : WD (avw K H9517 a0) := WD.congr (fun k hk j => av_arr hTH9482 ga0 wH9517 gf0 (by decide) (WD_ok 134 (by decide) k hk)) g9485
          have g9521 : IM (avw K H9517 a0) := IM.congr (fun k hk j => av_arr hTH9482 ga0 wH9517 gf0 (by decide) (IM_ok 134 (by decide) k hk)) g9486
          have b9522 : CP (fun k => fI H9517 f9 k) (fun k => fI H9245 f9 k) (16 * x9249.toNatClampNeg) (96) (x9344.toNatClampNeg + 1) := CP.congr (fun j => Wr.neI wH9517 (Or.inl (G_ne gf9 gf0 (by decide)))) b9487
          have b9523 : CP (fun k => fI H9517 f0 k) (fun k => fI H9245 f0 k) (16 * x9249.toNatClampNeg) (96) (x9344.toNatClampNeg + 1) := CP.step b9488 (i := x9513.toNatClampNeg) (k := x9515.toNatClampNeg) (x := x9516) (ix16 tx9512 tx9513 hrw.1 hlw.1) (le16 hrw hlw) (ixk n_96 tx9515 hlw.1) ex9516 (Wr.I wH9517) (fun j hj => Wr.neI wH9517 (Or.inr hj))
          have b9524 : CP (fun k => fI H9517 f1 k) (fun k => fI H9245 f1 k) (16 * x9249.toNatClampNeg) (96) (x9344.toNatClampNeg) := CP.congr (fun j => Wr.neI wH9517 (Or.inl (G_ne gf1 gf0 (by decide)))) b9489
          have b9525 : CP (fun k => fI H9517 oq k) (fun k => fI H9245 oq k) (500 * x9249.toNatClampNeg) (3000) (0) := CP.congr (fun j => Wr.neI wH9517 (Or.inl (G_ne goq gf0 (by decide)))) b9490
          have b9526 : CP (fun k => fI H9517 aq k) (fun k => fI H9245 aq k) (500 * x9249.toNatClampNeg) (3000) (0) := CP.congr (fun j => Wr.neI wH9517 (Or.inl (G_ne gaq gf0 (by decide)))) b9491
          have b9527 : CP (fun k => fI H9517 mq k) (fun k => fI H9245 mq k) (0) (0) (0) := CP.congr (fun j => Wr.neI wH9517 (Or.inl (G_ne gmq gf0 (by decide)))) b9492
          have m9528 := m9493.trans (Wr.neI wH9517 (Or.inl (G_ne ga0 gf0 (by decide)))).symm
          have m9529 := m9494.trans (Wr.neI wH9517 (Or.inl (G_ne ga0 gf0 (by decide)))).symm
          have m9530 := m9495.trans (Wr.neR wH9517 (Or.inl (G_ne ga0 gf0 (by decide)))).symm
          have m9531 := m9496.trans (Wr.neR wH9517 (Or.inl (G_ne ga0 gf0 (by decide)))).symm
          have m9532 := m9497.trans (Wr.neR wH9517 (Or.inl (G_ne ga0 gf0 (by decide)))).symm
          have m9533 := m9498.trans (Wr.neR wH9517 (Or.inl (G_ne ga0 gf0 (by decide)))).symm
          have m9534 := m9499.trans (Wr.neR wH9517 (Or.inl (G_ne ga0 gf0 (by decide)))).symm
          have m9535 := m9500.trans (Wr.neR wH9517 (Or.inl (G_ne ga0 gf0 (by decide)))).symm
          have m9536 := m9501.trans (Wr.neR wH9517 (Or.inl (G_ne ga0 gf0 (by decide)))).symm
          have m9537 := m9502.trans (Wr.neI wH9517 (Or.inl (G_ne gq9352 gf0 (by decide)))).symm
          have m9538 := m9503.trans (Wr.neR wH9517 (Or.inl (G_ne ga0 gf0 (by decide)))).symm
          have m9539 := m9504.trans (Wr.neI wH9517 (Or.inl (G_ne gq9380 gf0 (by decide)))).symm
          have m9540 := m9505.trans (Wr.neR wH9517 (Or.inl (G_ne ga0 gf0 (by decide)))).symm
          have m9541 := m9506.trans (Wr.neI wH9517 (Or.inl (G_ne gq9410 gf0 (by decide)))).symm
          have m9542 := m9507.trans (Wr.neR wH9517 (Or.inl (G_ne ga0 gf0 (by decide)))).symm
          have m9543 := m9508.trans (Wr.neI wH9517 (Or.inl (G_ne gq9442 gf0 (by decide)))).symm
          have m9544 := m9510.trans (Wr.neI wH9517 (Or.inl (G_ne gf9 gf0 (by decide)))).symm
          have m9546 := Wr.I wH9517
          have m9546 := m9546.symm
          clear b9487 b9488 b9489 b9490 b9491 b9492 ex9516 g9484 g9485 g9486 hTH9482 m9493 m9494 m9495 m9496 m9497 m9498 m9499 m9500 m9501 m9502 m9503 m9504 m9505 m9506 m9507 m9508 m9510 mf9483
          clear tx9512 tx9513 tx9515 bx9516 ex9512 ex9513 ex9515
          refine lv_aload_n hx hb dX10_text_297 rfl (lv_at hl9343 0 rfl) ?_
          refine x_gr C hTH9517 (ci := 10) (k := 31) rfl inX10 (by decide) wF_X10_80 ga0 rg_112 rfl dX10_text_298 (fun q9547 eq9547 gq9547 => ?_)
          have uq9547 : f1 = q9547 := (m9534).trans eq9547.symm
          subst uq9547
          clear eq9547
          refine lv_bipush (v := 16) hx hb dX10_text_301 (by decide) ?_
          refine lv_iload hx hb dX10_text_303 (lv_at hl9343 2 rfl) ?_
          refine lv_imul hx hb dX10_text_305 ?_
          refine lv_topi (fun x9548 ex9548 => ?_)
          have tx9548 := i_mul ex9548 (by rw [n_16]; omega)
          rw [n_16] at tx9548
          refine lv_iload hx hb dX10_text_306 (lv_at hl9343 3 rfl) ?_
          refine lv_iadd hx hb dX10_text_308 ?_
          refine lv_topi (fun x9549 ex9549 => ?_)
          have tx9549 := i_add ex9549 (by omega)
          refine lv_aload_n hx hb dX10_text_309 rfl (lv_at hl9343 0 rfl) ?_
          refine x_gr C hTH9517 (ci := 10) (k := 31) rfl inX10 (by decide) wF_X10_80 ga0 rg_112 rfl dX10_text_310 (fun q9550 eq9550 gq9550 => ?_)
          have uq9550 : f1 = q9550 := (m9534).trans eq9550.symm
          subst uq9550
          clear eq9550
          refine lv_bipush (v := 96) hx hb dX10_text_313 (by decide) ?_
          refine lv_iload hx hb dX10_text_315 (lv_at hl9343 3 rfl) ?_
          refine lv_iadd hx hb dX10_text_317 ?_
          refine lv_topi (fun x9551 ex9551 => ?_)
          have tx9551 := i_add ex9551 (by omega)
          refine x_ai C hTH9517 gf1 rg_135 ⟨by omega, by show _ < ((112 : Nat) : Int); omega⟩ dX10_text_318 (fun x9552 ex9552 bx9552 => ?_)
          refine x_iast C hTH9517 hSH9517 gf1 rg_135 (by omega) (by show _ < ((112 : Nat) : Int); omega) ⟨by have := i_rng x9552; omega, by have := i_rng x9552; omega⟩ (AE_in gf1 (by decide)) dX10_text_319 (fun H9553 locsH9553 hTH9553 hSH9553 wH9553 => ?_)
          have mf9554 : MF K s.heap H9553 a0 [0, 18, 19, 20, 21, 22, 34, 35, 36, 38, 39, 40, 41, 42] := MF.arr wH9553 (G_ne ga0 gf1 (by decide)) mf9518
          have g9555 : TU (avw K H9553 a0) (svw K H9553 a0) := TU.congr (fun k hk j => av_arr hTH9517 ga0 wH9553 gf1 (by decide) (TU_ok 135 (by decide) k hk)) (fun k hk => sv_arr ga0 wH9553 gf1 (by decide)) g9519
          have g9556 : WD (avw K H9553 a0) := WD.congr (fun k hk j => av_arr hTH9517 ga0 wH9553 gf1 (by decide) (WD_ok 135 (by decide) k hk)) g9520
          have g9557 : IM (avw K H9553 a0) := IM.congr (fun k hk j => av_arr hTH9517 ga0 wH9553 gf1 (by decide) (IM_ok 135 (by decide) k hk)) g9521
          have b9558 : CP (fun k => fI H9553 f9 k) (fun k => fI H9245 f9 k) (16 * x9249.toNatClampNeg) (96) (x9344.toNatClampNeg + 1) := CP.congr (fun j => Wr.neI wH9553 (Or.inl (G_ne gf9 gf1 (by decide)))) b9522
          have b9559 : CP (fun k => fI H9553 f0 k) (fun k => fI H9245 f0 k) (16 * x9249.toNatClampNeg) (96) (x9344.toNatClampNeg + 1) := CP.congr (fun j => Wr.neI wH9553 (Or.inl (G_ne gf0 gf1 (by decide)))) b9523
          have b9560 : CP (fun k => fI H9553 f1 k) (fun k => fI H9245 f1 k) (16 * x9249.toNatClampNeg) (96) (x9344.toNatClampNeg + 1) := CP.step b9524 (i := x9549.toNatClampNeg) (k := x9551.toNatClampNeg) (x := x9552) (ix16 tx9548 tx9549 hrw.1 hlw.1) (le16 hrw hlw) (ixk n_96 tx9551 hlw.1) ex9552 (Wr.I wH9553) (fun j hj => Wr.neI wH9553 (Or.inr hj))
          have b9561 : CP (fun k => fI H9553 oq k) (fun k => fI H9245 oq k) (500 * x9249.toNatClampNeg) (3000) (0) := CP.congr (fun j => Wr.neI wH9553 (Or.inl (G_ne goq gf1 (by decide)))) b9525
          have b9562 : CP (fun k => fI H9553 aq k) (fun k => fI H9245 aq k) (500 * x9249.toNatClampNeg) (3000) (0) := CP.congr (fun j => Wr.neI wH9553 (Or.inl (G_ne gaq gf1 (by decide)))) b9526
          have b9563 : CP (fun k => fI H9553 mq k) (fun k => fI H9245 mq k) (0) (0) (0) := CP.congr (fun j => Wr.neI wH9553 (Or.inl (G_ne gmq gf1 (by decide)))) b9527
          have m9564 := m9528.trans (Wr.neI wH9553 (Or.inl (G_ne ga0 gf1 (by decide)))).symm
          have m9565 := m9529.trans (Wr.neI wH9553 (Or.inl (G_ne ga0 gf1 (by decide)))).symm
          have m9566 := m9530.trans (Wr.neR wH9553 (Or.inl (G_ne ga0 gf1 (by decide)))).symm
          have m9567 := m9531.trans (Wr.neR wH9553 (Or.inl (G_ne ga0 gf1 (by decide)))).symm
          have m9568 := m9532.trans (Wr.neR wH9553 (Or.inl (G_ne ga0 gf1 (by decide)))).symm
          have m9569 := m9533.trans (Wr.neR wH9553 (Or.inl (G_ne ga0 gf1 (by decide)))).symm
          have m9570 := m9534.trans (Wr.neR wH9553 (Or.inl (G_ne ga0 gf1 (by decide)))).symm
          have m9571 := m9535.trans (Wr.neR wH9553 (Or.inl (G_ne ga0 gf1 (by decide)))).symm
          have m9572 := m9536.trans (Wr.neR wH9553 (Or.inl (G_ne ga0 gf1 (by decide)))).symm
          have m9573 := m9537.trans (Wr.neI wH9553 (Or.inl (G_ne gq9352 gf1 (by decide)))).symm
          have m9574 := m9538.trans (Wr.neR wH9553 (Or.inl (G_ne ga0 gf1 (by decide)))).symm
          have m9575 := m9539.trans (Wr.neI wH9553 (Or.inl (G_ne gq9380 gf1 (by decide)))).symm
          have m9576 := m9540.trans (Wr.neR wH9553 (Or.inl (G_ne ga0 gf1 (by decide)))).symm
          have m9577 := m9541.trans (Wr.neI wH9553 (Or.inl (G_ne gq9410 gf1 (by decide)))).symm
          have m9578 := m9542.trans (Wr.neR wH9553 (Or.inl (G_ne ga0 gf1 (by decide)))).symm
          have m9579 := m9543.trans (Wr.neI wH9553 (Or.inl (G_ne gq9442 gf1 (by decide)))).symm
          have m9580 := m9544.trans (Wr.neI wH9553 (Or.inl (G_ne gf9 gf1 (by decide)))).symm
          have m9581 := m9546.trans (Wr.neI wH9553 (Or.inl (G_ne gf0 gf1 (by decide)))).symm
          have m9583 := Wr.I wH9553
          have m9583 := m9583.symm
          clear b9522 b9523 b9524 b9525 b9526 b9527 ex9552 g9519 g9520 g9521 hTH9517 m9528 m9529 m9530 m9531 m9532 m9533 m9534 m9535 m9536 m9537 m9538 m9539 m9540 m9541 m9542 m9543 m9544 m9546 mf9518
          clear tx9548 tx9549 tx9551 bx9552 ex9548 ex9549 ex9551
          obtain ⟨x9584, ex9584⟩ : ∃ y : Int32, y = x9344 + 1 := ⟨_, rfl⟩
          have tx9584 := i_add ex9584 (by omega)
          refine lv_iinc (v := x9584) (lv' := [(6, .int x9584), (0, .ref a0), (4, .int x9248), (5, .int x9249)]) hx hb dX10_text_320 hl9343 (k := 3) rfl (by rw [ex9584]; rfl) (by decide) rfl (fun ls9585 hl9586 => ?_)
          refine lv_goto (tgt := 152) hx hb dX10_text_323 (by decide) ?_
          have cl_x9249 := i_cl (x := x9249) (by omega)
          have cl_x9344 := i_cl (x := x9344) (by omega)
          have cl_x9584 := i_cl (x := x9584) (by omega)
          exact ih152 ls9585 H9553 locsH9553 (x9584) (x9345) (x9346) (lv_sub hl9586 [1, 2, 3, 0] rfl) hTH9553 hSH9553 ⟨by have := i_rng x9584; omega, by have := i_rng x9584; omega⟩ ⟨by have := i_rng x9345; omega, by have := i_rng x9345; omega⟩ ⟨by have := i_rng x9346; omega, by have := i_rng x9346; omega⟩ m9564 m9565 m9566 m9567 m9568 m9569 m9570 m9571 (CP.cast b9558 (by omega) (by omega) (by omega)) (CP.cast b9559 (by omega) (by omega) (by omega)) (CP.cast b9560 (by omega) (by omega) (by omega)) (CP.cast b9561 (by omega) (by omega) (by omega)) (CP.cast b9562 (by omega) (by omega) (by omega)) (CP.cast b9563 (by omega) (by omega) (by omega)) mf9554 g9555 g9556 g9557 (by omega) (by omega)
    refine lv_iconst (v := 0) hx hb dX10_text_149 (by decide) ?_
    refine lv_istore (lv' := [(6, .int 0), (0, .ref a0), (4, .int x9248), (5, .int x9249)]) hx hb dX10_text_150 hl9247 (by decide) rfl (fun ls9587 hl9588 => ?_)
    have c9z : CP (fun k => fI H9245 f9 k) (fun k => fI H9245 f9 k) (16 * x9249.toNatClampNeg) (96) (0) := CP.rf rfl
    have c0z : CP (fun k => fI H9245 f0 k) (fun k => fI H9245 f0 k) (16 * x9249.toNatClampNeg) (96) (0) := CP.rf rfl
    have c1z : CP (fun k => fI H9245 f1 k) (fun k => fI H9245 f1 k) (16 * x9249.toNatClampNeg) (96) (0) := CP.rf rfl
    have coz : CP (fun k => fI H9245 oq k) (fun k => fI H9245 oq k) (500 * x9249.toNatClampNeg) (3000) (0) := CP.rf rfl
    have caz : CP (fun k => fI H9245 aq k) (fun k => fI H9245 aq k) (500 * x9249.toNatClampNeg) (3000) (0) := CP.rf rfl
    have cmz : CP (fun k => fI H9245 mq k) (fun k => fI H9245 mq k) (0) (0) (0) := CP.rf rfl
    have cl00 : (0 : Int32).toNatClampNeg = 0 := rfl
    have cl_0 := i_cl (x := (0 : Int32)) (by omega)
    have cl_x9249 := i_cl (x := x9249) (by omega)
    have cl_0 := i_cl (x := (0 : Int32)) (by omega)
    have cl_0 := i_cl (x := (0 : Int32)) (by omega)
    exact J152 ((16 - (0 : Int32).toInt).toNat + 1) ls9587 H9245 locsH9245 (0) (x9250) (x9251) (lv_sub hl9588 [1, 2, 3, 0] rfl) hTH9245 hSH9245 (by decide) ⟨by have := i_rng x9250; omega, by have := i_rng x9250; omega⟩ ⟨by have := i_rng x9251; omega, by have := i_rng x9251; omega⟩ ex9250 ex9251 cy9252_0 cy9252_1 cy9252_2 cy9252_3 cy9252_4 cy9252_5 (CP.cast c9z (by omega) (by omega) (by omega)) (CP.cast c0z (by omega) (by omega) (by omega)) (CP.cast c1z (by omega) (by omega) (by omega)) (CP.cast coz (by omega) (by omega) (by omega)) (CP.cast caz (by omega) (by omega) (by omega)) (CP.cast cmz (by omega) (by omega) (by omega)) mfy9252 gy9252_TU gy9252_WD gy9252_IM (by omega) (by omega)
  have J61 : ∀ (ls9590 : Array Slot) (H9589 : Heap) (locsH9589 : List Loc) (x9592 : Int32) (x9593 : Int32) (x9594 : Int32) (x9595 : Int32), lv_has ls9590 7 [(0, .ref a0), (1, .int x1), (2, .int x2), (3, .int x9592)] → TY K G H9589 → va_S (AE G [112, 136, 137, 138, 129, 130, 131, 132, 133, 134, 135, 128] s.heap.size) s.heap H9589 locsH9589 → (0 ≤ x9592.toInt ∧ x9592.toInt ≤ 1) → (0 ≤ x9593.toInt ∧ x9593.toInt ≤ 1) → (0 ≤ x9594.toInt ∧ x9594.toInt ≤ 500) → (0 ≤ x9595.toInt ∧ x9595.toInt ≤ 500) → (x9594 = fI H9589 a0 (K.1.2 10 35)) → (x9595 = fI H9589 a0 (K.1.2 10 18)) → (EQN oq (fR H9589 a0 (K.1.2 10 32))) → (EQN aq (fR H9589 a0 (K.1.2 10 33))) → (EQN f9 (fR H9589 a0 (K.1.2 10 29))) → (EQN f0 (fR H9589 a0 (K.1.2 10 30))) → (EQN f1 (fR H9589 a0 (K.1.2 10 31))) → (EQN mq (fR H9589 a0 (K.1.2 10 24))) → (MF K s.heap H9589 a0 [0, 18, 19, 20, 21, 22, 34, 35, 36, 38, 39, 40, 41, 42]) → (CG (avw K H9589 a0)) → (TU (avw K H9589 a0) (svw K H9589 a0)) → (WD (avw K H9589 a0)) → (IM (avw K H9589 a0)) → ((x9592.toInt = 0 ∨ (x1.toInt = 0 ∧ 0 ≤ x2.toInt ∧ x2.toInt ≤ 1) ∨ (x1.toInt = 1 ∧ 0 ≤ x2.toInt ∧ x2.toInt ≤ 3))) → W p l e ({ frames := 10, cells := 0, slots := 0, locals := 215 } : Room) s m (([.ref a0, .int x1, .int x2] : List Value).toArray) below meth c H9589 locsH9589 0 0 Q (F0 m 61 ls9590 [.int x9593, .ref a0]) := by
    intro ls9590 H9589 locsH9589 x9592 x9593 x9594 x9595 hl9591 hTH9589 hSH9589 bx9592 bx9593 bx9594 bx9595 ex9594 ex9595 cy9596_0 cy9596_1 cy9596_2 cy9596_3 cy9596_4 cy9596_5 mfy9596 gy9596_CG gy9596_TU gy9596_WD gy9596_IM iv61
    refine x_put C hTH9589 hSH9589 (ci := 10) (k := 34) (v := .int x9593) (ty0 := tyX10) rfl inX10 tyX10_ok nmX10 (by decide) rfl wF_X10_231 ga0 rg_112 rfl rfl (okI (by have := i_rng x9593; omega) (by have := i_rng x9593; omega)) (by rcases i_01 (x := x9593) (by omega) with h | h <;> rw [h] <;> rfl) (by rcases i_01 (x := x9593) (by omega) with h | h <;> rw [h] <;> rfl) (AE_in ga0 (by decide)) dX10_text_61 (fun H9597 locsH9597 hTH9597 hSH9597 wH9597 => ?_)
    have mf9598 : MF K s.heap H9597 a0 [0, 18, 19, 20, 21, 22, 34, 35, 36, 38, 39, 40, 41, 42] := MF.fld hap wH9597 (by decide) (by decide) mfy9596
    have g9599 : CG (avw K H9597 a0) := CG.congr (fun k hk j => av_fld hTH9589 ga0 hap wH9597 (by decide) (CG_ok 112 (by decide) k hk) (CG_ne 34 (by decide) k hk)) gy9596_CG
    have g9600 : TU (avw K H9597 a0) (svw K H9597 a0) := TU.congr (fun k hk j => av_fld hTH9589 ga0 hap wH9597 (by decide) (TU_ok 112 (by decide) k hk) (TU_ne 34 (by decide) k hk)) (fun k hk => sv_fld hap wH9597 (by decide) (TU_slt k hk) (TU_sne 34 (by decide) k hk)) gy9596_TU
    have g9601 : WD (avw K H9597 a0) := WD.congr (fun k hk j => av_fld hTH9589 ga0 hap wH9597 (by decide) (WD_ok 112 (by decide) k hk) (WD_ne 34 (by decide) k hk)) gy9596_WD
    have g9602 : IM (avw K H9597 a0) := IM.congr (fun k hk j => av_fld hTH9589 ga0 hap wH9597 (by decide) (IM_ok 112 (by decide) k hk) (IM_ne 34 (by decide) k hk)) gy9596_IM
    have m9603 := ex9594.trans (Wr.neI wH9597 (Or.inr (x_apart hKT hts inX10 tyX10 tyX10_ok nmX10 rfl 35 34 (by decide) (by decide) (by decide)))).symm
    have m9604 := ex9595.trans (Wr.neI wH9597 (Or.inr (x_apart hKT hts inX10 tyX10 tyX10_ok nmX10 rfl 18 34 (by decide) (by decide) (by decide)))).symm
    have m9605 := cy9596_0.trans (Wr.neR wH9597 (Or.inr (x_apart hKT hts inX10 tyX10 tyX10_ok nmX10 rfl 32 34 (by decide) (by decide) (by decide)))).symm
    have m9606 := cy9596_1.trans (Wr.neR wH9597 (Or.inr (x_apart hKT hts inX10 tyX10 tyX10_ok nmX10 rfl 33 34 (by decide) (by decide) (by decide)))).symm
    have m9607 := cy9596_2.trans (Wr.neR wH9597 (Or.inr (x_apart hKT hts inX10 tyX10 tyX10_ok nmX10 rfl 29 34 (by decide) (by decide) (by decide)))).symm
    have m9608 := cy9596_3.trans (Wr.neR wH9597 (Or.inr (x_apart hKT hts inX10 tyX10 tyX10_ok nmX10 rfl 30 34 (by decide) (by decide) (by decide)))).symm
    have m9609 := cy9596_4.trans (Wr.neR wH9597 (Or.inr (x_apart hKT hts inX10 tyX10 tyX10_ok nmX10 rfl 31 34 (by decide) (by decide) (by decide)))).symm
    have m9610 := cy9596_5.trans (Wr.neR wH9597 (Or.inr (x_apart hKT hts inX10 tyX10 tyX10_ok nmX10 rfl 24 34 (by decide) (by decide) (by decide)))).symm
    have m9611 := Wr.I wH9597
    have m9611 := m9611.symm
    clear cy9596_0 cy9596_1 cy9596_2 cy9596_3 cy9596_4 cy9596_5 ex9594 ex9595 gy9596_CG gy9596_IM gy9596_TU gy9596_WD hTH9589 mfy9596
    refine lv_aload_n hx hb dX10_text_64 rfl (lv_at hl9591 0 rfl) ?_
    refine lv_iconst (v := 0) hx hb dX10_text_65 (by decide) ?_
    refine x_put C hTH9597 hSH9597 (ci := 10) (k := 19) (v := .int 0) (ty0 := tyX10) rfl inX10 tyX10_ok nmX10 (by decide) rfl wF_X10_192 ga0 rg_112 rfl rfl (okI (by have := i_rng (0 : Int32); omega) (by have := i_rng (0 : Int32); omega)) rfl rfl (AE_in ga0 (by decide)) dX10_text_66 (fun H9612 locsH9612 hTH9612 hSH9612 wH9612 => ?_)
    have mf9613 : MF K s.heap H9612 a0 [0, 18, 19, 20, 21, 22, 34, 35, 36, 38, 39, 40, 41, 42] := MF.fld hap wH9612 (by decide) (by decide) mf9598
    have g9614 : CG (avw K H9612 a0) := CG.congr (fun k hk j => av_fld hTH9597 ga0 hap wH9612 (by decide) (CG_ok 112 (by decide) k hk) (CG_ne 19 (by decide) k hk)) g9599
    have g9615 : TU (avw K H9612 a0) (svw K H9612 a0) := TU.congr (fun k hk j => av_fld hTH9597 ga0 hap wH9612 (by decide) (TU_ok 112 (by decide) k hk) (TU_ne 19 (by decide) k hk)) (fun k hk => sv_fld hap wH9612 (by decide) (TU_slt k hk) (TU_sne 19 (by decide) k hk)) g9600
    have g9616 : WD (avw K H9612 a0) := WD.congr (fun k hk j => av_fld hTH9597 ga0 hap wH9612 (by decide) (WD_ok 112 (by decide) k hk) (WD_ne 19 (by decide) k hk)) g9601
    have g9617 : IM (avw K H9612 a0) := IM.congr (fun k hk j => av_fld hTH9597 ga0 hap wH9612 (by decide) (IM_ok 112 (by decide) k hk) (IM_ne 19 (by decide) k hk)) g9602
    have m9618 := m9603.trans (Wr.neI wH9612 (Or.inr (x_apart hKT hts inX10 tyX10 tyX10_ok nmX10 rfl 35 19 (by decide) (by decide) (by decide)))).symm
    have m9619 := m9604.trans (Wr.neI wH9612 (Or.inr (x_apart hKT hts inX10 tyX10 tyX10_ok nmX10 rfl 18 19 (by decide) (by decide) (by decide)))).symm
    have m9620 := m9605.trans (Wr.neR wH9612 (Or.inr (x_apart hKT hts inX10 tyX10 tyX10_ok nmX10 rfl 32 19 (by decide) (by decide) (by decide)))).symm
    have m9621 := m9606.trans (Wr.neR wH9612 (Or.inr (x_apart hKT hts inX10 tyX10 tyX10_ok nmX10 rfl 33 19 (by decide) (by decide) (by decide)))).symm
    have m9622 := m9607.trans (Wr.neR wH9612 (Or.inr (x_apart hKT hts inX10 tyX10 tyX10_ok nmX10 rfl 29 19 (by decide) (by decide) (by decide)))).symm
    have m9623 := m9608.trans (Wr.neR wH9612 (Or.inr (x_apart hKT hts inX10 tyX10 tyX10_ok nmX10 rfl 30 19 (by decide) (by decide) (by decide)))).symm
    have m9624 := m9609.trans (Wr.neR wH9612 (Or.inr (x_apart hKT hts inX10 tyX10 tyX10_ok nmX10 rfl 31 19 (by decide) (by decide) (by decide)))).symm
    have m9625 := m9610.trans (Wr.neR wH9612 (Or.inr (x_apart hKT hts inX10 tyX10 tyX10_ok nmX10 rfl 24 19 (by decide) (by decide) (by decide)))).symm
    have m9626 := m9611.trans (Wr.neI wH9612 (Or.inr (x_apart hKT hts inX10 tyX10 tyX10_ok nmX10 rfl 34 19 (by decide) (by decide) (by decide)))).symm
    have m9627 := Wr.I wH9612
    clear g9599 g9600 g9601 g9602 hTH9597 m9603 m9604 m9605 m9606 m9607 m9608 m9609 m9610 m9611 mf9598
    refine lv_aload_n hx hb dX10_text_69 rfl (lv_at hl9591 0 rfl) ?_
    refine lv_iconst (v := 0) hx hb dX10_text_70 (by decide) ?_
    refine x_put C hTH9612 hSH9612 (ci := 10) (k := 35) (v := .int 0) (ty0 := tyX10) rfl inX10 tyX10_ok nmX10 (by decide) rfl wF_X10_228 ga0 rg_112 rfl rfl (okI (by have := i_rng (0 : Int32); omega) (by have := i_rng (0 : Int32); omega)) rfl rfl (AE_in ga0 (by decide)) dX10_text_71 (fun H9628 locsH9628 hTH9628 hSH9628 wH9628 => ?_)
    have mf9629 : MF K s.heap H9628 a0 [0, 18, 19, 20, 21, 22, 34, 35, 36, 38, 39, 40, 41, 42] := MF.fld hap wH9628 (by decide) (by decide) mf9613
    have g9630 : CG (avw K H9628 a0) := CG.congr (fun k hk j => av_fld hTH9612 ga0 hap wH9628 (by decide) (CG_ok 112 (by decide) k hk) (CG_ne 35 (by decide) k hk)) g9614
    have g9631 : TU (avw K H9628 a0) (svw K H9628 a0) := TU.congr (fun k hk j => av_fld hTH9612 ga0 hap wH9628 (by decide) (TU_ok 112 (by decide) k hk) (TU_ne 35 (by decide) k hk)) (fun k hk => sv_fld hap wH9628 (by decide) (TU_slt k hk) (TU_sne 35 (by decide) k hk)) g9615
    have g9632 : WD (avw K H9628 a0) := WD.congr (fun k hk j => av_fld hTH9612 ga0 hap wH9628 (by decide) (WD_ok 112 (by decide) k hk) (WD_ne 35 (by decide) k hk)) g9616
    have g9633 : IM (avw K H9628 a0) := IM.congr (fun k hk j => av_fld hTH9612 ga0 hap wH9628 (by decide) (IM_ok 112 (by decide) k hk) (IM_ne 35 (by decide) k hk)) g9617
    have m9635 := m9619.trans (Wr.neI wH9628 (Or.inr (x_apart hKT hts inX10 tyX10 tyX10_ok nmX10 rfl 18 35 (by decide) (by decide) (by decide)))).symm
    have m9636 := m9620.trans (Wr.neR wH9628 (Or.inr (x_apart hKT hts inX10 tyX10 tyX10_ok nmX10 rfl 32 35 (by decide) (by decide) (by decide)))).symm
    have m9637 := m9621.trans (Wr.neR wH9628 (Or.inr (x_apart hKT hts inX10 tyX10 tyX10_ok nmX10 rfl 33 35 (by decide) (by decide) (by decide)))).symm
    have m9638 := m9622.trans (Wr.neR wH9628 (Or.inr (x_apart hKT hts inX10 tyX10 tyX10_ok nmX10 rfl 29 35 (by decide) (by decide) (by decide)))).symm
    have m9639 := m9623.trans (Wr.neR wH9628 (Or.inr (x_apart hKT hts inX10 tyX10 tyX10_ok nmX10 rfl 30 35 (by decide) (by decide) (by decide)))).symm
    have m9640 := m9624.trans (Wr.neR wH9628 (Or.inr (x_apart hKT hts inX10 tyX10 tyX10_ok nmX10 rfl 31 35 (by decide) (by decide) (by decide)))).symm
    have m9641 := m9625.trans (Wr.neR wH9628 (Or.inr (x_apart hKT hts inX10 tyX10 tyX10_ok nmX10 rfl 24 35 (by decide) (by decide) (by decide)))).symm
    have m9642 := m9626.trans (Wr.neI wH9628 (Or.inr (x_apart hKT hts inX10 tyX10 tyX10_ok nmX10 rfl 34 35 (by decide) (by decide) (by decide)))).symm
    have m9643 := (Wr.neI wH9628 (Or.inr (x_apart hKT hts inX10 tyX10 tyX10_ok nmX10 rfl 19 35 (by decide) (by decide) (by decide)))).trans m9627
    have m9644 := Wr.I wH9628
    clear g9614 g9615 g9616 g9617 hTH9612 m9618 m9619 m9620 m9621 m9622 m9623 m9624 m9625 m9626 m9627 mf9613
    refine lv_aload_n hx hb dX10_text_74 rfl (lv_at hl9591 0 rfl) ?_
    refine lv_iconst (v := 0) hx hb dX10_text_75 (by decide) ?_
    refine x_put C hTH9628 hSH9628 (ci := 10) (k := 36) (v := .int 0) (ty0 := tyX10) rfl inX10 tyX10_ok nmX10 (by decide) rfl wF_X10_261 ga0 rg_112 rfl rfl (okI (by have := i_rng (0 : Int32); omega) (by have := i_rng (0 : Int32); omega)) rfl rfl (AE_in ga0 (by decide)) dX10_text_76 (fun H9645 locsH9645 hTH9645 hSH9645 wH9645 => ?_)
    have mf9646 : MF K s.heap H9645 a0 [0, 18, 19, 20, 21, 22, 34, 35, 36, 38, 39, 40, 41, 42] := MF.fld hap wH9645 (by decide) (by decide) mf9629
    have g9647 : CG (avw K H9645 a0) := CG.congr (fun k hk j => av_fld hTH9628 ga0 hap wH9645 (by decide) (CG_ok 112 (by decide) k hk) (CG_ne 36 (by decide) k hk)) g9630
    have g9648 : TU (avw K H9645 a0) (svw K H9645 a0) := TU.congr (fun k hk j => av_fld hTH9628 ga0 hap wH9645 (by decide) (TU_ok 112 (by decide) k hk) (TU_ne 36 (by decide) k hk)) (fun k hk => sv_fld hap wH9645 (by decide) (TU_slt k hk) (TU_sne 36 (by decide) k hk)) g9631
    have g9649 : WD (avw K H9645 a0) := WD.congr (fun k hk j => av_fld hTH9628 ga0 hap wH9645 (by decide) (WD_ok 112 (by decide) k hk) (WD_ne 36 (by decide) k hk)) g9632
    have g9650 : IM (avw K H9645 a0) := IM.congr (fun k hk j => av_fld hTH9628 ga0 hap wH9645 (by decide) (IM_ok 112 (by decide) k hk) (IM_ne 36 (by decide) k hk)) g9633
    have m9651 := m9635.trans (Wr.neI wH9645 (Or.inr (x_apart hKT hts inX10 tyX10 tyX10_ok nmX10 rfl 18 36 (by decide) (by decide) (by decide)))).symm
    have m9652 := m9636.trans (Wr.neR wH9645 (Or.inr (x_apart hKT hts inX10 tyX10 tyX10_ok nmX10 rfl 32 36 (by decide) (by decide) (by decide)))).symm
    have m9653 := m9637.trans (Wr.neR wH9645 (Or.inr (x_apart hKT hts inX10 tyX10 tyX10_ok nmX10 rfl 33 36 (by decide) (by decide) (by decide)))).symm
    have m9654 := m9638.trans (Wr.neR wH9645 (Or.inr (x_apart hKT hts inX10 tyX10 tyX10_ok nmX10 rfl 29 36 (by decide) (by decide) (by decide)))).symm
    have m9655 := m9639.trans (Wr.neR wH9645 (Or.inr (x_apart hKT hts inX10 tyX10 tyX10_ok nmX10 rfl 30 36 (by decide) (by decide) (by decide)))).symm
    have m9656 := m9640.trans (Wr.neR wH9645 (Or.inr (x_apart hKT hts inX10 tyX10 tyX10_ok nmX10 rfl 31 36 (by decide) (by decide) (by decide)))).symm
    have m9657 := m9641.trans (Wr.neR wH9645 (Or.inr (x_apart hKT hts inX10 tyX10 tyX10_ok nmX10 rfl 24 36 (by decide) (by decide) (by decide)))).symm
    have m9658 := m9642.trans (Wr.neI wH9645 (Or.inr (x_apart hKT hts inX10 tyX10 tyX10_ok nmX10 rfl 34 36 (by decide) (by decide) (by decide)))).symm
    have m9659 := (Wr.neI wH9645 (Or.inr (x_apart hKT hts inX10 tyX10 tyX10_ok nmX10 rfl 19 36 (by decide) (by decide) (by decide)))).trans m9643
    have m9660 := (Wr.neI wH9645 (Or.inr (x_apart hKT hts inX10 tyX10 tyX10_ok nmX10 rfl 35 36 (by decide) (by decide) (by decide)))).trans m9644
    have m9661 := Wr.I wH9645
    clear g9630 g9631 g9632 g9633 hTH9628 m9635 m9636 m9637 m9638 m9639 m9640 m9641 m9642 m9643 m9644 mf9629
    refine lv_aload_n hx hb dX10_text_79 rfl (lv_at hl9591 0 rfl) ?_
    obtain ⟨q9662, eq9662⟩ : ∃ z : Nat, EQN z (fR H9645 a0 (K.1.2 10 17)) := ⟨_, rfl⟩
    have gq9662 := ty_fr (q := q9662) (k := 17) (u := 126) eq9662 hTH9645 ga0 rg_112 rfl
    replace eq9662 := EQN.mk eq9662
    obtain ⟨x9663, ex9663⟩ : ∃ z : Int32, z = fI H9645 a0 (K.1.2 10 20) := ⟨_, rfl⟩
    have bx9663 := ty_fi (x := x9663) (k := 20) ex9663 hTH9645 ga0 rg_112 rfl
    obtain ⟨x9664, ex9664⟩ : ∃ z : Int32, z = fI H9645 a0 (K.1.2 10 21) := ⟨_, rfl⟩
    have bx9664 := ty_fi (x := x9664) (k := 21) ex9664 hTH9645 ga0 rg_112 rfl
    obtain ⟨x9665, ex9665⟩ : ∃ z : Int32, z = fI H9645 a0 (K.1.2 10 22) := ⟨_, rfl⟩
    have bx9665 := ty_fi (x := x9665) (k := 22) ex9665 hTH9645 ga0 rg_112 rfl
    refine x_V (As := []) (rest := []) C (a_X10_reads l K G H9645 (0) (x9663) (x9664) (x9665) (x9595) hTH9645 ga0 gq9662 eq9662 (m9659).symm ex9663 ex9664 ex9665 m9651 g9647 g9648 g9649 g9650 (by omega)) yo_X10_reads wM_X10_242 ⟨⟨by decide, by decide⟩, by decide, by decide⟩ (x_rv C hTH9645 (ci := 10) rfl ga0 rg_112) rfl hl9591.1 rfl (Nat.le_of_ble_eq_true rfl) dX10_text_80 hSH9645 (AE_sub (fun _ _ => rfl) (by decide) hSH9645.1) (fun vH9666 H9666 locsH9666 pH9666 zH9666 kH9666 hSH9666 => ?_)
    obtain ⟨x9667, x9668, x9669, x9670, hvH9666, ex9667, ex9668, ex9669, ex9670, hrH9666, m9671, g9672, g9673, g9674, g9675, mf9676, hTH9666⟩ := pH9666
    subst hvH9666
    clear zH9666
    replace m9671 := EQN.mk m9671
    have m9677 := (m9651).trans (MF.i mf9676 (k := 18) (by decide) (by decide)).symm
    have m9678 := (m9652).trans (MF.r mf9676 (k := 32) (by decide) (by decide)).symm
    have m9679 := (m9653).trans (MF.r mf9676 (k := 33) (by decide) (by decide)).symm
    have m9680 := (m9654).trans (MF.r mf9676 (k := 29) (by decide) (by decide)).symm
    have m9681 := (m9655).trans (MF.r mf9676 (k := 30) (by decide) (by decide)).symm
    have m9682 := (m9656).trans (MF.r mf9676 (k := 31) (by decide) (by decide)).symm
    have m9683 := (m9657).trans (MF.r mf9676 (k := 24) (by decide) (by decide)).symm
    have m9684 := (m9658).trans (MF.i mf9676 (k := 34) (by decide) (by decide)).symm
    have m9685 := (MF.i mf9676 (k := 35) (by decide) (by decide)).trans m9660
    have m9686 := (MF.i mf9676 (k := 36) (by decide) (by decide)).trans m9661
    have m9687 := (eq9662).trans (MF.r mf9676 (k := 17) (by decide) (by decide)).symm
    have mf9688 : MF K s.heap H9666 a0 [0, 18, 19, 20, 21, 22, 34, 35, 36, 38, 39, 40, 41, 42] := MF.trans mf9646 mf9676 (by decide)
    have bx9667 := ty_fi (x := x9667) (k := 19) ex9667 hTH9666 ga0 rg_112 rfl
    have bx9668 := ty_fi (x := x9668) (k := 20) ex9668 hTH9666 ga0 rg_112 rfl
    have bx9669 := ty_fi (x := x9669) (k := 21) ex9669 hTH9666 ga0 rg_112 rfl
    have bx9670 := ty_fi (x := x9670) (k := 22) ex9670 hTH9666 ga0 rg_112 rfl
    obtain ⟨r1H9666, r2H9666, r3H9666, r4H9666, r5H9666, r6H9666, r7H9666⟩ := hrH9666
    refine W.eq (g2 := F0 m 83 ls9590 []) rfl ?_
    refine lv_iload_n hx hb dX10_text_83 rfl (lv_at hl9591 3 rfl) ?_
    refine lv_if_eq (tgt := 94) hx hb dX10_text_84 (by decide) (fun c9689 => ?_) (fun c9689 => ?_)
    · have k9690 := i_eq c9689
      refine lv_iconst (v := (-1)) hx hb dX10_text_94 (by decide) ?_
      refine lv_istore (lv' := [(4, .int (-1)), (0, .ref a0), (1, .int x1), (2, .int x2), (3, .int x9592)]) hx hb dX10_text_95 hl9591 (by decide) rfl (fun ls9691 hl9692 => ?_)
      refine lv_aload_n hx hb dX10_text_97 rfl (lv_at hl9692 1 rfl) ?_
      refine lv_iconst (v := 0) hx hb dX10_text_98 (by decide) ?_
      refine x_put C hTH9666 hSH9666 (ci := 10) (k := 18) (v := .int 0) (ty0 := tyX10) rfl inX10 tyX10_ok nmX10 (by decide) rfl wF_X10_185 ga0 rg_112 rfl rfl (okI (by have := i_rng (0 : Int32); omega) (by have := i_rng (0 : Int32); omega)) rfl rfl (AE_in ga0 (by decide)) dX10_text_99 (fun H9693 locsH9693 hTH9693 hSH9693 wH9693 => ?_)
      have mf9694 : MF K s.heap H9693 a0 [0, 18, 19, 20, 21, 22, 34, 35, 36, 38, 39, 40, 41, 42] := MF.fld hap wH9693 (by decide) (by decide) mf9688
      have g9695 : CG (avw K H9693 a0) := CG.congr (fun k hk j => av_fld hTH9666 ga0 hap wH9693 (by decide) (CG_ok 112 (by decide) k hk) (CG_ne 18 (by decide) k hk)) g9672
      have g9696 : TU (avw K H9693 a0) (svw K H9693 a0) := TU.congr (fun k hk j => av_fld hTH9666 ga0 hap wH9693 (by decide) (TU_ok 112 (by decide) k hk) (TU_ne 18 (by decide) k hk)) (fun k hk => sv_fld hap wH9693 (by decide) (TU_slt k hk) (TU_sne 18 (by decide) k hk)) g9673
      have g9697 : WD (avw K H9693 a0) := WD.congr (fun k hk j => av_fld hTH9666 ga0 hap wH9693 (by decide) (WD_ok 112 (by decide) k hk) (WD_ne 18 (by decide) k hk)) g9674
      have g9698 : IM (avw K H9693 a0) := IM.congr (fun k hk j => av_fld hTH9666 ga0 hap wH9693 (by decide) (IM_ok 112 (by decide) k hk) (IM_ne 18 (by decide) k hk)) g9675
      have m9700 := m9678.trans (Wr.neR wH9693 (Or.inr (x_apart hKT hts inX10 tyX10 tyX10_ok nmX10 rfl 32 18 (by decide) (by decide) (by decide)))).symm
      have m9701 := m9679.trans (Wr.neR wH9693 (Or.inr (x_apart hKT hts inX10 tyX10 tyX10_ok nmX10 rfl 33 18 (by decide) (by decide) (by decide)))).symm
      have m9702 := m9680.trans (Wr.neR wH9693 (Or.inr (x_apart hKT hts inX10 tyX10 tyX10_ok nmX10 rfl 29 18 (by decide) (by decide) (by decide)))).symm
      have m9703 := m9681.trans (Wr.neR wH9693 (Or.inr (x_apart hKT hts inX10 tyX10 tyX10_ok nmX10 rfl 30 18 (by decide) (by decide) (by decide)))).symm
      have m9704 := m9682.trans (Wr.neR wH9693 (Or.inr (x_apart hKT hts inX10 tyX10 tyX10_ok nmX10 rfl 31 18 (by decide) (by decide) (by decide)))).symm
      have m9705 := m9683.trans (Wr.neR wH9693 (Or.inr (x_apart hKT hts inX10 tyX10 tyX10_ok nmX10 rfl 24 18 (by decide) (by decide) (by decide)))).symm
      have m9706 := m9684.trans (Wr.neI wH9693 (Or.inr (x_apart hKT hts inX10 tyX10 tyX10_ok nmX10 rfl 34 18 (by decide) (by decide) (by decide)))).symm
      have m9707 := (Wr.neI wH9693 (Or.inr (x_apart hKT hts inX10 tyX10 tyX10_ok nmX10 rfl 35 18 (by decide) (by decide) (by decide)))).trans m9685
      have m9708 := (Wr.neI wH9693 (Or.inr (x_apart hKT hts inX10 tyX10 tyX10_ok nmX10 rfl 36 18 (by decide) (by decide) (by decide)))).trans m9686
      have m9709 := m9671.trans (Wr.neR wH9693 (Or.inr (x_apart hKT hts inX10 tyX10 tyX10_ok nmX10 rfl 17 18 (by decide) (by decide) (by decide)))).symm
      have m9710 := ex9667.trans (Wr.neI wH9693 (Or.inr (x_apart hKT hts inX10 tyX10 tyX10_ok nmX10 rfl 19 18 (by decide) (by decide) (by decide)))).symm
      have m9711 := ex9668.trans (Wr.neI wH9693 (Or.inr (x_apart hKT hts inX10 tyX10 tyX10_ok nmX10 rfl 20 18 (by decide) (by decide) (by decide)))).symm
      have m9712 := ex9669.trans (Wr.neI wH9693 (Or.inr (x_apart hKT hts inX10 tyX10 tyX10_ok nmX10 rfl 21 18 (by decide) (by decide) (by decide)))).symm
      have m9713 := ex9670.trans (Wr.neI wH9693 (Or.inr (x_apart hKT hts inX10 tyX10 tyX10_ok nmX10 rfl 22 18 (by decide) (by decide) (by decide)))).symm
      have m9714 := Wr.I wH9693
      clear ex9667 ex9668 ex9669 ex9670 g9672 g9673 g9674 g9675 hTH9666 m9671 m9677 m9678 m9679 m9680 m9681 m9682 m9683 m9684 m9685 m9686 mf9688
      refine lv_iload_n hx hb dX10_text_102 rfl (lv_at hl9692 4 rfl) ?_
      refine lv_if_eq (tgt := 128) hx hb dX10_text_103 (by decide) (fun c9715 => ?_) (fun c9715 => ?_)
      · have k9716 := i_eq c9715
        refine lv_iload hx hb dX10_text_128 (lv_at hl9692 0 rfl) ?_
        refine lv_iconst (v := (-1)) hx hb dX10_text_130 (by decide) ?_
        refine lv_icmp_ne (tgt := 136) hx hb dX10_text_131 (by decide) (fun c9717 => ?_) (fun c9717 => ?_)
        · have k9718 := i_ne c9717
          exfalso
          omega
        · have k9718 := i_eq c9717
          refine lv_iconst (v := (-1)) hx hb dX10_text_134 (by decide) ?_
          exact x_iret C hQ dX10_text_135 hSH9693 (by decide) (by decide) (⟨(-1), 0, 0, rfl, (m9707).symm, (m9714).symm, by omega, m9700, m9701, m9702, m9703, m9704, m9705, g9695, g9696, g9697, g9698, mf9694, hTH9693⟩)
      · have k9716 := i_ne c9715
        exfalso
        omega
    · have k9690 := i_ne c9689
      replace iv61 := iv61.resolve_left (by omega)
      refine lv_aload_n hx hb dX10_text_87 rfl (lv_at hl9591 0 rfl) ?_
      refine x_V (As := []) (rest := []) C (a_X10_readText l K G H9666 (x9667) (x9668) (x9669) (x9670) (0) (x9595) (x9593) hTH9666 ga0 goq m9678 gaq m9679 gf9 m9680 gf0 m9681 gf1 m9682 ex9667 ex9668 ex9669 ex9670 (m9685).symm m9677 m9684 g9672 g9673 g9674 g9675 (by omega) (by omega)) yo_X10_readText wM_X10_295 ⟨⟨by decide, by decide⟩, by decide, by decide⟩ (x_rv C hTH9666 (ci := 10) rfl ga0 rg_112) rfl hl9591.1 rfl (Nat.le_of_ble_eq_true rfl) dX10_text_88 hSH9666 (AE_sub (fun _ _ => rfl) (by decide) hSH9666.1) (fun vH9719 H9719 locsH9719 pH9719 zH9719 kH9719 hSH9719 => ?_)
      obtain ⟨x9720, x9721, x9722, x9723, x9724, x9725, hvH9719, bx9720, ex9721, ex9722, ex9723, ex9724, ex9725, hrH9719, m9726, m9727, m9728, m9729, m9730, g9731, g9732, g9733, g9734, mf9735, m9736, hTH9719⟩ := pH9719
      subst hvH9719
      clear zH9719
      replace m9726 := EQN.mk m9726
      replace m9727 := EQN.mk m9727
      replace m9728 := EQN.mk m9728
      replace m9729 := EQN.mk m9729
      replace m9730 := EQN.mk m9730
      have m9737 := (m9677).trans (MF.i mf9735 (k := 18) (by decide) (by decide)).symm
      have m9738 := (m9678).trans (MF.r mf9735 (k := 32) (by decide) (by decide)).symm
      have m9739 := (m9679).trans (MF.r mf9735 (k := 33) (by decide) (by decide)).symm
      have m9740 := (m9680).trans (MF.r mf9735 (k := 29) (by decide) (by decide)).symm
      have m9741 := (m9681).trans (MF.r mf9735 (k := 30) (by decide) (by decide)).symm
      have m9742 := (m9682).trans (MF.r mf9735 (k := 31) (by decide) (by decide)).symm
      have m9743 := (m9683).trans (MF.r mf9735 (k := 24) (by decide) (by decide)).symm
      have m9744 := (m9684).trans (MF.i mf9735 (k := 34) (by decide) (by decide)).symm
      have m9745 := (m9671).trans (MF.r mf9735 (k := 17) (by decide) (by decide)).symm
      have mf9746 : MF K s.heap H9719 a0 [0, 18, 19, 20, 21, 22, 34, 35, 36, 38, 39, 40, 41, 42] := MF.trans mf9688 mf9735 (by decide)
      have bx9721 := ty_fi (x := x9721) (k := 19) ex9721 hTH9719 ga0 rg_112 rfl
      have bx9722 := ty_fi (x := x9722) (k := 20) ex9722 hTH9719 ga0 rg_112 rfl
      have bx9723 := ty_fi (x := x9723) (k := 21) ex9723 hTH9719 ga0 rg_112 rfl
      have bx9724 := ty_fi (x := x9724) (k := 22) ex9724 hTH9719 ga0 rg_112 rfl
      have bx9725 := ty_fi (x := x9725) (k := 35) ex9725 hTH9719 ga0 rg_112 rfl
      refine W.eq (g2 := F0 m 91 ls9590 [.int x9720]) rfl ?_
      refine lv_goto (tgt := 95) hx hb dX10_text_91 (by decide) ?_
      refine lv_istore (lv' := [(4, .int x9720), (0, .ref a0), (1, .int x1), (2, .int x2), (3, .int x9592)]) hx hb dX10_text_95 hl9591 (by decide) rfl (fun ls9747 hl9748 => ?_)
      refine lv_aload_n hx hb dX10_text_97 rfl (lv_at hl9748 1 rfl) ?_
      refine lv_iconst (v := 0) hx hb dX10_text_98 (by decide) ?_
      refine x_put C hTH9719 hSH9719 (ci := 10) (k := 18) (v := .int 0) (ty0 := tyX10) rfl inX10 tyX10_ok nmX10 (by decide) rfl wF_X10_185 ga0 rg_112 rfl rfl (okI (by have := i_rng (0 : Int32); omega) (by have := i_rng (0 : Int32); omega)) rfl rfl (AE_in ga0 (by decide)) dX10_text_99 (fun H9749 locsH9749 hTH9749 hSH9749 wH9749 => ?_)
      have mf9750 : MF K s.heap H9749 a0 [0, 18, 19, 20, 21, 22, 34, 35, 36, 38, 39, 40, 41, 42] := MF.fld hap wH9749 (by decide) (by decide) mf9746
      have g9751 : CG (avw K H9749 a0) := CG.congr (fun k hk j => av_fld hTH9719 ga0 hap wH9749 (by decide) (CG_ok 112 (by decide) k hk) (CG_ne 18 (by decide) k hk)) g9731
      have g9752 : TU (avw K H9749 a0) (svw K H9749 a0) := TU.congr (fun k hk j => av_fld hTH9719 ga0 hap wH9749 (by decide) (TU_ok 112 (by decide) k hk) (TU_ne 18 (by decide) k hk)) (fun k hk => sv_fld hap wH9749 (by decide) (TU_slt k hk) (TU_sne 18 (by decide) k hk)) g9732
      have g9753 : WD (avw K H9749 a0) := WD.congr (fun k hk j => av_fld hTH9719 ga0 hap wH9749 (by decide) (WD_ok 112 (by decide) k hk) (WD_ne 18 (by decide) k hk)) g9733
      have g9754 : IM (avw K H9749 a0) := IM.congr (fun k hk j => av_fld hTH9719 ga0 hap wH9749 (by decide) (IM_ok 112 (by decide) k hk) (IM_ne 18 (by decide) k hk)) g9734
      have m9756 := m9726.trans (Wr.neR wH9749 (Or.inr (x_apart hKT hts inX10 tyX10 tyX10_ok nmX10 rfl 32 18 (by decide) (by decide) (by decide)))).symm
      have m9757 := m9727.trans (Wr.neR wH9749 (Or.inr (x_apart hKT hts inX10 tyX10 tyX10_ok nmX10 rfl 33 18 (by decide) (by decide) (by decide)))).symm
      have m9758 := m9728.trans (Wr.neR wH9749 (Or.inr (x_apart hKT hts inX10 tyX10 tyX10_ok nmX10 rfl 29 18 (by decide) (by decide) (by decide)))).symm
      have m9759 := m9729.trans (Wr.neR wH9749 (Or.inr (x_apart hKT hts inX10 tyX10 tyX10_ok nmX10 rfl 30 18 (by decide) (by decide) (by decide)))).symm
      have m9760 := m9730.trans (Wr.neR wH9749 (Or.inr (x_apart hKT hts inX10 tyX10 tyX10_ok nmX10 rfl 31 18 (by decide) (by decide) (by decide)))).symm
      have m9761 := m9743.trans (Wr.neR wH9749 (Or.inr (x_apart hKT hts inX10 tyX10 tyX10_ok nmX10 rfl 24 18 (by decide) (by decide) (by decide)))).symm
      have m9762 := m9744.trans (Wr.neI wH9749 (Or.inr (x_apart hKT hts inX10 tyX10 tyX10_ok nmX10 rfl 34 18 (by decide) (by decide) (by decide)))).symm
      have m9763 := m9745.trans (Wr.neR wH9749 (Or.inr (x_apart hKT hts inX10 tyX10 tyX10_ok nmX10 rfl 17 18 (by decide) (by decide) (by decide)))).symm
      have m9764 := ex9721.trans (Wr.neI wH9749 (Or.inr (x_apart hKT hts inX10 tyX10 tyX10_ok nmX10 rfl 19 18 (by decide) (by decide) (by decide)))).symm
      have m9765 := ex9722.trans (Wr.neI wH9749 (Or.inr (x_apart hKT hts inX10 tyX10 tyX10_ok nmX10 rfl 20 18 (by decide) (by decide) (by decide)))).symm
      have m9766 := ex9723.trans (Wr.neI wH9749 (Or.inr (x_apart hKT hts inX10 tyX10 tyX10_ok nmX10 rfl 21 18 (by decide) (by decide) (by decide)))).symm
      have m9767 := ex9724.trans (Wr.neI wH9749 (Or.inr (x_apart hKT hts inX10 tyX10 tyX10_ok nmX10 rfl 22 18 (by decide) (by decide) (by decide)))).symm
      have m9768 := ex9725.trans (Wr.neI wH9749 (Or.inr (x_apart hKT hts inX10 tyX10 tyX10_ok nmX10 rfl 35 18 (by decide) (by decide) (by decide)))).symm
      have m9769 := Wr.I wH9749
      clear ex9721 ex9722 ex9723 ex9724 ex9725 g9731 g9732 g9733 g9734 hTH9719 m9726 m9727 m9728 m9729 m9730 m9737 m9743 m9744 m9745 mf9746
      refine lv_iload_n hx hb dX10_text_102 rfl (lv_at hl9748 4 rfl) ?_
      refine lv_if_eq (tgt := 128) hx hb dX10_text_103 (by decide) (fun c9770 => ?_) (fun c9770 => ?_)
      · have k9771 := i_eq c9770
        exfalso
        omega
      · have k9771 := i_ne c9770
        refine lv_iload hx hb dX10_text_106 (lv_at hl9748 0 rfl) ?_
        refine lv_iconst (v := (-1)) hx hb dX10_text_108 (by decide) ?_
        refine lv_icmp_ne (tgt := 128) hx hb dX10_text_109 (by decide) (fun c9772 => ?_) (fun c9772 => ?_)
        · have k9773 := i_ne c9772
          refine lv_iload hx hb dX10_text_128 (lv_at hl9748 0 rfl) ?_
          refine lv_iconst (v := (-1)) hx hb dX10_text_130 (by decide) ?_
          refine lv_icmp_ne (tgt := 136) hx hb dX10_text_131 (by decide) (fun c9774 => ?_) (fun c9774 => ?_)
          · have k9775 := i_ne c9774
            refine lv_iload_n hx hb dX10_text_136 rfl (lv_at hl9748 2 rfl) ?_
            refine lv_if_ne (tgt := 144) hx hb dX10_text_137 (by decide) (fun c9776 => ?_) (fun c9776 => ?_)
            · have k9777 := i_ne c9776
              refine lv_iconst (v := 2) hx hb dX10_text_144 (by decide) ?_
              refine lv_iload_n hx hb dX10_text_145 rfl (lv_at hl9748 3 rfl) ?_
              refine lv_iadd hx hb dX10_text_146 ?_
              refine lv_topi (fun x9778 ex9778 => ?_)
              have tx9778 := i_add ex9778 (by omega)
              refine lv_istore (lv' := [(5, .int x9778), (4, .int x9720), (0, .ref a0), (1, .int x1), (2, .int x2), (3, .int x9592)]) hx hb dX10_text_147 hl9748 (by decide) rfl (fun ls9779 hl9780 => ?_)
              have hDL := m9736.resolve_left (by omega)
              replace hDL := DL.congr (fun j => Wr.neI wH9749 (Or.inl (G_ne gf9 ga0 (by decide)))) (fun j => Wr.neI wH9749 (Or.inl (G_ne gf0 ga0 (by decide)))) (fun j => Wr.neI wH9749 (Or.inl (G_ne gf1 ga0 (by decide)))) (fun j => Wr.neI wH9749 (Or.inl (G_ne goq ga0 (by decide)))) (fun j => Wr.neI wH9749 (Or.inl (G_ne gaq ga0 (by decide)))) hDL
              exact J149  ls9779 H9749 locsH9749 (x9720) (x9778) (x9725) (0) (lv_sub hl9780 [2, 1, 0] rfl) hTH9749 hSH9749 ⟨by have := i_rng x9720; omega, by have := i_rng x9720; omega⟩ ⟨by have := i_rng x9778; omega, by have := i_rng x9778; omega⟩ ⟨by have := i_rng x9725; omega, by have := i_rng x9725; omega⟩ (by decide) m9768 (m9769).symm m9756 m9757 m9758 m9759 m9760 m9761 mf9750 g9751 g9752 g9753 g9754 (by omega) (DL.cast hDL (by omega) (by omega))
            · have k9777 := i_eq c9776
              refine lv_iload_n hx hb dX10_text_140 rfl (lv_at hl9748 3 rfl) ?_
              refine lv_goto (tgt := 147) hx hb dX10_text_141 (by decide) ?_
              refine lv_istore (lv' := [(5, .int x2), (4, .int x9720), (0, .ref a0), (1, .int x1), (2, .int x2), (3, .int x9592)]) hx hb dX10_text_147 hl9748 (by decide) rfl (fun ls9781 hl9782 => ?_)
              have hDL := m9736.resolve_left (by omega)
              replace hDL := DL.congr (fun j => Wr.neI wH9749 (Or.inl (G_ne gf9 ga0 (by decide)))) (fun j => Wr.neI wH9749 (Or.inl (G_ne gf0 ga0 (by decide)))) (fun j => Wr.neI wH9749 (Or.inl (G_ne gf1 ga0 (by decide)))) (fun j => Wr.neI wH9749 (Or.inl (G_ne goq ga0 (by decide)))) (fun j => Wr.neI wH9749 (Or.inl (G_ne gaq ga0 (by decide)))) hDL
              exact J149  ls9781 H9749 locsH9749 (x9720) (x2) (x9725) (0) (lv_sub hl9782 [2, 1, 0] rfl) hTH9749 hSH9749 ⟨by have := i_rng x9720; omega, by have := i_rng x9720; omega⟩ ⟨by have := i_rng x2; omega, by have := i_rng x2; omega⟩ ⟨by have := i_rng x9725; omega, by have := i_rng x9725; omega⟩ (by decide) m9768 (m9769).symm m9756 m9757 m9758 m9759 m9760 m9761 mf9750 g9751 g9752 g9753 g9754 (by omega) (DL.cast hDL (by omega) (by omega))
          · have k9775 := i_eq c9774
            exfalso
            omega
        · have k9773 := i_eq c9772
          refine lv_aload_n hx hb dX10_text_112 rfl (lv_at hl9748 1 rfl) ?_
          refine lv_aload_n hx hb dX10_text_113 rfl (lv_at hl9748 1 rfl) ?_
          refine x_gi C hTH9749 (ci := 10) (k := 39) rfl inX10 (by decide) wF_X10_222 ga0 rg_112 rfl dX10_text_114 (fun x9783 ex9783 bx9783 => ?_)
          refine x_put C hTH9749 hSH9749 (ci := 10) (k := 41) (v := .int x9783) (ty0 := tyX10) rfl inX10 tyX10_ok nmX10 (by decide) rfl wF_X10_292 ga0 rg_112 rfl rfl (okI (by have := i_rng x9783; omega) (by have := i_rng x9783; omega)) rfl rfl (AE_in ga0 (by decide)) dX10_text_117 (fun H9784 locsH9784 hTH9784 hSH9784 wH9784 => ?_)
          have mf9785 : MF K s.heap H9784 a0 [0, 18, 19, 20, 21, 22, 34, 35, 36, 38, 39, 40, 41, 42] := MF.fld hap wH9784 (by decide) (by decide) mf9750
          have g9786 : CG (avw K H9784 a0) := CG.congr (fun k hk j => av_fld hTH9749 ga0 hap wH9784 (by decide) (CG_ok 112 (by decide) k hk) (CG_ne 41 (by decide) k hk)) g9751
          have g9787 : TU (avw K H9784 a0) (svw K H9784 a0) := TU.congr (fun k hk j => av_fld hTH9749 ga0 hap wH9784 (by decide) (TU_ok 112 (by decide) k hk) (TU_ne 41 (by decide) k hk)) (fun k hk => sv_fld hap wH9784 (by decide) (TU_slt k hk) (TU_sne 41 (by decide) k hk)) g9752
          have g9788 : WD (avw K H9784 a0) := WD.congr (fun k hk j => av_fld hTH9749 ga0 hap wH9784 (by decide) (WD_ok 112 (by decide) k hk) (WD_ne 41 (by decide) k hk)) g9753
          have g9789 : IM (avw K H9784 a0) := IM.congr (fun k hk j => av_fld hTH9749 ga0 hap wH9784 (by decide) (IM_ok 112 (by decide) k hk) (IM_ne 41 (by decide) k hk)) g9754
          have m9790 := m9756.trans (Wr.neR wH9784 (Or.inr (x_apart hKT hts inX10 tyX10 tyX10_ok nmX10 rfl 32 41 (by decide) (by decide) (by decide)))).symm
          have m9791 := m9757.trans (Wr.neR wH9784 (Or.inr (x_apart hKT hts inX10 tyX10 tyX10_ok nmX10 rfl 33 41 (by decide) (by decide) (by decide)))).symm
          have m9792 := m9758.trans (Wr.neR wH9784 (Or.inr (x_apart hKT hts inX10 tyX10 tyX10_ok nmX10 rfl 29 41 (by decide) (by decide) (by decide)))).symm
          have m9793 := m9759.trans (Wr.neR wH9784 (Or.inr (x_apart hKT hts inX10 tyX10 tyX10_ok nmX10 rfl 30 41 (by decide) (by decide) (by decide)))).symm
          have m9794 := m9760.trans (Wr.neR wH9784 (Or.inr (x_apart hKT hts inX10 tyX10 tyX10_ok nmX10 rfl 31 41 (by decide) (by decide) (by decide)))).symm
          have m9795 := m9761.trans (Wr.neR wH9784 (Or.inr (x_apart hKT hts inX10 tyX10 tyX10_ok nmX10 rfl 24 41 (by decide) (by decide) (by decide)))).symm
          have m9796 := m9762.trans (Wr.neI wH9784 (Or.inr (x_apart hKT hts inX10 tyX10 tyX10_ok nmX10 rfl 34 41 (by decide) (by decide) (by decide)))).symm
          have m9797 := m9763.trans (Wr.neR wH9784 (Or.inr (x_apart hKT hts inX10 tyX10 tyX10_ok nmX10 rfl 17 41 (by decide) (by decide) (by decide)))).symm
          have m9798 := m9764.trans (Wr.neI wH9784 (Or.inr (x_apart hKT hts inX10 tyX10 tyX10_ok nmX10 rfl 19 41 (by decide) (by decide) (by decide)))).symm
          have m9799 := m9765.trans (Wr.neI wH9784 (Or.inr (x_apart hKT hts inX10 tyX10 tyX10_ok nmX10 rfl 20 41 (by decide) (by decide) (by decide)))).symm
          have m9800 := m9766.trans (Wr.neI wH9784 (Or.inr (x_apart hKT hts inX10 tyX10 tyX10_ok nmX10 rfl 21 41 (by decide) (by decide) (by decide)))).symm
          have m9801 := m9767.trans (Wr.neI wH9784 (Or.inr (x_apart hKT hts inX10 tyX10 tyX10_ok nmX10 rfl 22 41 (by decide) (by decide) (by decide)))).symm
          have m9802 := m9768.trans (Wr.neI wH9784 (Or.inr (x_apart hKT hts inX10 tyX10 tyX10_ok nmX10 rfl 35 41 (by decide) (by decide) (by decide)))).symm
          have m9803 := (Wr.neI wH9784 (Or.inr (x_apart hKT hts inX10 tyX10 tyX10_ok nmX10 rfl 18 41 (by decide) (by decide) (by decide)))).trans m9769
          have m9804 := ex9783.trans (Wr.neI wH9784 (Or.inr (x_apart hKT hts inX10 tyX10 tyX10_ok nmX10 rfl 39 41 (by decide) (by decide) (by decide)))).symm
          have m9805 := Wr.I wH9784
          have m9805 := m9805.symm
          clear ex9783 g9751 g9752 g9753 g9754 hTH9749 m9756 m9757 m9758 m9759 m9760 m9761 m9762 m9763 m9764 m9765 m9766 m9767 m9768 m9769 mf9750
          refine lv_aload_n hx hb dX10_text_120 rfl (lv_at hl9748 1 rfl) ?_
          refine lv_aload_n hx hb dX10_text_121 rfl (lv_at hl9748 1 rfl) ?_
          refine x_gi C hTH9784 (ci := 10) (k := 40) rfl inX10 (by decide) wF_X10_225 ga0 rg_112 rfl dX10_text_122 (fun x9806 ex9806 bx9806 => ?_)
          refine x_put C hTH9784 hSH9784 (ci := 10) (k := 42) (v := .int x9806) (ty0 := tyX10) rfl inX10 tyX10_ok nmX10 (by decide) rfl wF_X10_92 ga0 rg_112 rfl rfl (okI (by have := i_rng x9806; omega) (by have := i_rng x9806; omega)) rfl rfl (AE_in ga0 (by decide)) dX10_text_125 (fun H9807 locsH9807 hTH9807 hSH9807 wH9807 => ?_)
          have mf9808 : MF K s.heap H9807 a0 [0, 18, 19, 20, 21, 22, 34, 35, 36, 38, 39, 40, 41, 42] := MF.fld hap wH9807 (by decide) (by decide) mf9785
          have g9809 : CG (avw K H9807 a0) := CG.congr (fun k hk j => av_fld hTH9784 ga0 hap wH9807 (by decide) (CG_ok 112 (by decide) k hk) (CG_ne 42 (by decide) k hk)) g9786
          have g9810 : TU (avw K H9807 a0) (svw K H9807 a0) := TU.congr (fun k hk j => av_fld hTH9784 ga0 hap wH9807 (by decide) (TU_ok 112 (by decide) k hk) (TU_ne 42 (by decide) k hk)) (fun k hk => sv_fld hap wH9807 (by decide) (TU_slt k hk) (TU_sne 42 (by decide) k hk)) g9787
          have g9811 : WD (avw K H9807 a0) := WD.congr (fun k hk j => av_fld hTH9784 ga0 hap wH9807 (by decide) (WD_ok 112 (by decide) k hk) (WD_ne 42 (by decide) k hk)) g9788
          have g9812 : IM (avw K H9807 a0) := IM.congr (fun k hk j => av_fld hTH9784 ga0 hap wH9807 (by decide) (IM_ok 112 (by decide) k hk) (IM_ne 42 (by decide) k hk)) g9789
          have m9813 := m9790.trans (Wr.neR wH9807 (Or.inr (x_apart hKT hts inX10 tyX10 tyX10_ok nmX10 rfl 32 42 (by decide) (by decide) (by decide)))).symm
          have m9814 := m9791.trans (Wr.neR wH9807 (Or.inr (x_apart hKT hts inX10 tyX10 tyX10_ok nmX10 rfl 33 42 (by decide) (by decide) (by decide)))).symm
          have m9815 := m9792.trans (Wr.neR wH9807 (Or.inr (x_apart hKT hts inX10 tyX10 tyX10_ok nmX10 rfl 29 42 (by decide) (by decide) (by decide)))).symm
          have m9816 := m9793.trans (Wr.neR wH9807 (Or.inr (x_apart hKT hts inX10 tyX10 tyX10_ok nmX10 rfl 30 42 (by decide) (by decide) (by decide)))).symm
          have m9817 := m9794.trans (Wr.neR wH9807 (Or.inr (x_apart hKT hts inX10 tyX10 tyX10_ok nmX10 rfl 31 42 (by decide) (by decide) (by decide)))).symm
          have m9818 := m9795.trans (Wr.neR wH9807 (Or.inr (x_apart hKT hts inX10 tyX10 tyX10_ok nmX10 rfl 24 42 (by decide) (by decide) (by decide)))).symm
          have m9819 := m9796.trans (Wr.neI wH9807 (Or.inr (x_apart hKT hts inX10 tyX10 tyX10_ok nmX10 rfl 34 42 (by decide) (by decide) (by decide)))).symm
          have m9820 := m9797.trans (Wr.neR wH9807 (Or.inr (x_apart hKT hts inX10 tyX10 tyX10_ok nmX10 rfl 17 42 (by decide) (by decide) (by decide)))).symm
          have m9821 := m9798.trans (Wr.neI wH9807 (Or.inr (x_apart hKT hts inX10 tyX10 tyX10_ok nmX10 rfl 19 42 (by decide) (by decide) (by decide)))).symm
          have m9822 := m9799.trans (Wr.neI wH9807 (Or.inr (x_apart hKT hts inX10 tyX10 tyX10_ok nmX10 rfl 20 42 (by decide) (by decide) (by decide)))).symm
          have m9823 := m9800.trans (Wr.neI wH9807 (Or.inr (x_apart hKT hts inX10 tyX10 tyX10_ok nmX10 rfl 21 42 (by decide) (by decide) (by decide)))).symm
          have m9824 := m9801.trans (Wr.neI wH9807 (Or.inr (x_apart hKT hts inX10 tyX10 tyX10_ok nmX10 rfl 22 42 (by decide) (by decide) (by decide)))).symm
          have m9825 := m9802.trans (Wr.neI wH9807 (Or.inr (x_apart hKT hts inX10 tyX10 tyX10_ok nmX10 rfl 35 42 (by decide) (by decide) (by decide)))).symm
          have m9826 := (Wr.neI wH9807 (Or.inr (x_apart hKT hts inX10 tyX10 tyX10_ok nmX10 rfl 18 42 (by decide) (by decide) (by decide)))).trans m9803
          have m9827 := m9804.trans (Wr.neI wH9807 (Or.inr (x_apart hKT hts inX10 tyX10 tyX10_ok nmX10 rfl 39 42 (by decide) (by decide) (by decide)))).symm
          have m9828 := m9805.trans (Wr.neI wH9807 (Or.inr (x_apart hKT hts inX10 tyX10 tyX10_ok nmX10 rfl 41 42 (by decide) (by decide) (by decide)))).symm
          have m9829 := ex9806.trans (Wr.neI wH9807 (Or.inr (x_apart hKT hts inX10 tyX10 tyX10_ok nmX10 rfl 40 42 (by decide) (by decide) (by decide)))).symm
          have m9830 := Wr.I wH9807
          have m9830 := m9830.symm
          clear ex9806 g9786 g9787 g9788 g9789 hTH9784 m9790 m9791 m9792 m9793 m9794 m9795 m9796 m9797 m9798 m9799 m9800 m9801 m9802 m9803 m9804 m9805 mf9785
          refine lv_iload hx hb dX10_text_128 (lv_at hl9748 0 rfl) ?_
          refine lv_iconst (v := (-1)) hx hb dX10_text_130 (by decide) ?_
          refine lv_icmp_ne (tgt := 136) hx hb dX10_text_131 (by decide) (fun c9831 => ?_) (fun c9831 => ?_)
          · have k9832 := i_ne c9831
            exfalso
            omega
          · have k9832 := i_eq c9831
            refine lv_iconst (v := (-1)) hx hb dX10_text_134 (by decide) ?_
            exact x_iret C hQ dX10_text_135 hSH9807 (by decide) (by decide) (⟨(-1), x9725, 0, rfl, m9825, (m9826).symm, by omega, m9813, m9814, m9815, m9816, m9817, m9818, g9809, g9810, g9811, g9812, mf9808, hTH9807⟩)
  refine lv_aload_n hx hb dX10_text_0 rfl (lv_at hl 0 rfl) ?_
  refine lv_iconst (v := 0) hx hb dX10_text_1 (by decide) ?_
  refine x_put C hT hS (ci := 10) (k := 0) (v := .int 0) (ty0 := tyX10) rfl inX10 tyX10_ok nmX10 (by decide) rfl wF_X10_167 ga0 rg_112 rfl rfl (okI (by have := i_rng (0 : Int32); omega) (by have := i_rng (0 : Int32); omega)) rfl rfl (AE_in ga0 (by decide)) dX10_text_2 (fun H9833 locsH9833 hTH9833 hSH9833 wH9833 => ?_)
  have mf9834 : MF K s.heap H9833 a0 [0, 18, 19, 20, 21, 22, 34, 35, 36, 38, 39, 40, 41, 42] := MF.fld hap wH9833 (by decide) (by decide) mf0
  have g9835 : CG (avw K H9833 a0) := CG.congr (fun k hk j => av_fld hT ga0 hap wH9833 (by decide) (CG_ok 112 (by decide) k hk) (CG_ne 0 (by decide) k hk)) hg_CG
  have g9836 : TU (avw K H9833 a0) (svw K H9833 a0) := TU.congr (fun k hk j => av_fld hT ga0 hap wH9833 (by decide) (TU_ok 112 (by decide) k hk) (TU_ne 0 (by decide) k hk)) (fun k hk => sv_fld hap wH9833 (by decide) (TU_slt k hk) (TU_sne 0 (by decide) k hk)) hg_TU
  have g9837 : WD (avw K H9833 a0) := WD.congr (fun k hk j => av_fld hT ga0 hap wH9833 (by decide) (WD_ok 112 (by decide) k hk) (WD_ne 0 (by decide) k hk)) hg_WD
  have g9838 : IM (avw K H9833 a0) := IM.congr (fun k hk j => av_fld hT ga0 hap wH9833 (by decide) (IM_ok 112 (by decide) k hk) (IM_ne 0 (by decide) k hk)) hg_IM
  have m9839 := eoq.trans (Wr.neR wH9833 (Or.inr (x_apart hKT hts inX10 tyX10 tyX10_ok nmX10 rfl 32 0 (by decide) (by decide) (by decide)))).symm
  have m9840 := eaq.trans (Wr.neR wH9833 (Or.inr (x_apart hKT hts inX10 tyX10 tyX10_ok nmX10 rfl 33 0 (by decide) (by decide) (by decide)))).symm
  have m9841 := ef9.trans (Wr.neR wH9833 (Or.inr (x_apart hKT hts inX10 tyX10 tyX10_ok nmX10 rfl 29 0 (by decide) (by decide) (by decide)))).symm
  have m9842 := ef0.trans (Wr.neR wH9833 (Or.inr (x_apart hKT hts inX10 tyX10 tyX10_ok nmX10 rfl 30 0 (by decide) (by decide) (by decide)))).symm
  have m9843 := ef1.trans (Wr.neR wH9833 (Or.inr (x_apart hKT hts inX10 tyX10 tyX10_ok nmX10 rfl 31 0 (by decide) (by decide) (by decide)))).symm
  have m9844 := emq.trans (Wr.neR wH9833 (Or.inr (x_apart hKT hts inX10 tyX10 tyX10_ok nmX10 rfl 24 0 (by decide) (by decide) (by decide)))).symm
  have m9845 := emn.trans (Wr.neI wH9833 (Or.inr (x_apart hKT hts inX10 tyX10 tyX10_ok nmX10 rfl 35 0 (by decide) (by decide) (by decide)))).symm
  have m9846 := etq0.trans (Wr.neI wH9833 (Or.inr (x_apart hKT hts inX10 tyX10 tyX10_ok nmX10 rfl 18 0 (by decide) (by decide) (by decide)))).symm
  have m9847 := Wr.I wH9833
  clear eaq ef0 ef1 ef9 emn emq eoq etq0 mf0
  refine lv_aload_n hx hb dX10_text_5 rfl (lv_at hl 0 rfl) ?_
  refine lv_iconst (v := 0) hx hb dX10_text_6 (by decide) ?_
  refine x_put C hTH9833 hSH9833 (ci := 10) (k := 41) (v := .int 0) (ty0 := tyX10) rfl inX10 tyX10_ok nmX10 (by decide) rfl wF_X10_292 ga0 rg_112 rfl rfl (okI (by have := i_rng (0 : Int32); omega) (by have := i_rng (0 : Int32); omega)) rfl rfl (AE_in ga0 (by decide)) dX10_text_7 (fun H9848 locsH9848 hTH9848 hSH9848 wH9848 => ?_)
  have mf9849 : MF K s.heap H9848 a0 [0, 18, 19, 20, 21, 22, 34, 35, 36, 38, 39, 40, 41, 42] := MF.fld hap wH9848 (by decide) (by decide) mf9834
  have g9850 : CG (avw K H9848 a0) := CG.congr (fun k hk j => av_fld hTH9833 ga0 hap wH9848 (by decide) (CG_ok 112 (by decide) k hk) (CG_ne 41 (by decide) k hk)) g9835
  have g9851 : TU (avw K H9848 a0) (svw K H9848 a0) := TU.congr (fun k hk j => av_fld hTH9833 ga0 hap wH9848 (by decide) (TU_ok 112 (by decide) k hk) (TU_ne 41 (by decide) k hk)) (fun k hk => sv_fld hap wH9848 (by decide) (TU_slt k hk) (TU_sne 41 (by decide) k hk)) g9836
  have g9852 : WD (avw K H9848 a0) := WD.congr (fun k hk j => av_fld hTH9833 ga0 hap wH9848 (by decide) (WD_ok 112 (by decide) k hk) (WD_ne 41 (by decide) k hk)) g9837
  have g9853 : IM (avw K H9848 a0) := IM.congr (fun k hk j => av_fld hTH9833 ga0 hap wH9848 (by decide) (IM_ok 112 (by decide) k hk) (IM_ne 41 (by decide) k hk)) g9838
  have m9854 := m9839.trans (Wr.neR wH9848 (Or.inr (x_apart hKT hts inX10 tyX10 tyX10_ok nmX10 rfl 32 41 (by decide) (by decide) (by decide)))).symm
  have m9855 := m9840.trans (Wr.neR wH9848 (Or.inr (x_apart hKT hts inX10 tyX10 tyX10_ok nmX10 rfl 33 41 (by decide) (by decide) (by decide)))).symm
  have m9856 := m9841.trans (Wr.neR wH9848 (Or.inr (x_apart hKT hts inX10 tyX10 tyX10_ok nmX10 rfl 29 41 (by decide) (by decide) (by decide)))).symm
  have m9857 := m9842.trans (Wr.neR wH9848 (Or.inr (x_apart hKT hts inX10 tyX10 tyX10_ok nmX10 rfl 30 41 (by decide) (by decide) (by decide)))).symm
  have m9858 := m9843.trans (Wr.neR wH9848 (Or.inr (x_apart hKT hts inX10 tyX10 tyX10_ok nmX10 rfl 31 41 (by decide) (by decide) (by decide)))).symm
  have m9859 := m9844.trans (Wr.neR wH9848 (Or.inr (x_apart hKT hts inX10 tyX10 tyX10_ok nmX10 rfl 24 41 (by decide) (by decide) (by decide)))).symm
  have m9860 := m9845.trans (Wr.neI wH9848 (Or.inr (x_apart hKT hts inX10 tyX10 tyX10_ok nmX10 rfl 35 41 (by decide) (by decide) (by decide)))).symm
  have m9861 := m9846.trans (Wr.neI wH9848 (Or.inr (x_apart hKT hts inX10 tyX10 tyX10_ok nmX10 rfl 18 41 (by decide) (by decide) (by decide)))).symm
  have m9862 := (Wr.neI wH9848 (Or.inr (x_apart hKT hts inX10 tyX10 tyX10_ok nmX10 rfl 0 41 (by decide) (by decide) (by decide)))).trans m9847
  have m9863 := Wr.I wH9848
  clear g9835 g9836 g9837 g9838 hTH9833 m9839 m9840 m9841 m9842 m9843 m9844 m9845 m9846 m9847 mf9834
  refine lv_aload_n hx hb dX10_text_10 rfl (lv_at hl 0 rfl) ?_
  refine lv_iconst (v := (-1)) hx hb dX10_text_11 (by decide) ?_
  refine x_put C hTH9848 hSH9848 (ci := 10) (k := 42) (v := .int (-1)) (ty0 := tyX10) rfl inX10 tyX10_ok nmX10 (by decide) rfl wF_X10_92 ga0 rg_112 rfl rfl (okI (by have := i_rng ((-1) : Int32); omega) (by have := i_rng ((-1) : Int32); omega)) rfl rfl (AE_in ga0 (by decide)) dX10_text_12 (fun H9864 locsH9864 hTH9864 hSH9864 wH9864 => ?_)
  have mf9865 : MF K s.heap H9864 a0 [0, 18, 19, 20, 21, 22, 34, 35, 36, 38, 39, 40, 41, 42] := MF.fld hap wH9864 (by decide) (by decide) mf9849
  have g9866 : CG (avw K H9864 a0) := CG.congr (fun k hk j => av_fld hTH9848 ga0 hap wH9864 (by decide) (CG_ok 112 (by decide) k hk) (CG_ne 42 (by decide) k hk)) g9850
  have g9867 : TU (avw K H9864 a0) (svw K H9864 a0) := TU.congr (fun k hk j => av_fld hTH9848 ga0 hap wH9864 (by decide) (TU_ok 112 (by decide) k hk) (TU_ne 42 (by decide) k hk)) (fun k hk => sv_fld hap wH9864 (by decide) (TU_slt k hk) (TU_sne 42 (by decide) k hk)) g9851
  have g9868 : WD (avw K H9864 a0) := WD.congr (fun k hk j => av_fld hTH9848 ga0 hap wH9864 (by decide) (WD_ok 112 (by decide) k hk) (WD_ne 42 (by decide) k hk)) g9852
  have g9869 : IM (avw K H9864 a0) := IM.congr (fun k hk j => av_fld hTH9848 ga0 hap wH9864 (by decide) (IM_ok 112 (by decide) k hk) (IM_ne 42 (by decide) k hk)) g9853
  have m9870 := m9854.trans (Wr.neR wH9864 (Or.inr (x_apart hKT hts inX10 tyX10 tyX10_ok nmX10 rfl 32 42 (by decide) (by decide) (by decide)))).symm
  have m9871 := m9855.trans (Wr.neR wH9864 (Or.inr (x_apart hKT hts inX10 tyX10 tyX10_ok nmX10 rfl 33 42 (by decide) (by decide) (by decide)))).symm
  have m9872 := m9856.trans (Wr.neR wH9864 (Or.inr (x_apart hKT hts inX10 tyX10 tyX10_ok nmX10 rfl 29 42 (by decide) (by decide) (by decide)))).symm
  have m9873 := m9857.trans (Wr.neR wH9864 (Or.inr (x_apart hKT hts inX10 tyX10 tyX10_ok nmX10 rfl 30 42 (by decide) (by decide) (by decide)))).symm
  have m9874 := m9858.trans (Wr.neR wH9864 (Or.inr (x_apart hKT hts inX10 tyX10 tyX10_ok nmX10 rfl 31 42 (by decide) (by decide) (by decide)))).symm
  have m9875 := m9859.trans (Wr.neR wH9864 (Or.inr (x_apart hKT hts inX10 tyX10 tyX10_ok nmX10 rfl 24 42 (by decide) (by decide) (by decide)))).symm
  have m9876 := m9860.trans (Wr.neI wH9864 (Or.inr (x_apart hKT hts inX10 tyX10 tyX10_ok nmX10 rfl 35 42 (by decide) (by decide) (by decide)))).symm
  have m9877 := m9861.trans (Wr.neI wH9864 (Or.inr (x_apart hKT hts inX10 tyX10 tyX10_ok nmX10 rfl 18 42 (by decide) (by decide) (by decide)))).symm
  have m9878 := (Wr.neI wH9864 (Or.inr (x_apart hKT hts inX10 tyX10 tyX10_ok nmX10 rfl 0 42 (by decide) (by decide) (by decide)))).trans m9862
  have m9879 := (Wr.neI wH9864 (Or.inr (x_apart hKT hts inX10 tyX10 tyX10_ok nmX10 rfl 41 42 (by decide) (by decide) (by decide)))).trans m9863
  have m9880 := Wr.I wH9864
  clear g9850 g9851 g9852 g9853 hTH9848 m9854 m9855 m9856 m9857 m9858 m9859 m9860 m9861 m9862 m9863 mf9849
  refine lv_iload_n hx hb dX10_text_15 rfl (lv_at hl 1 rfl) ?_
  refine lv_if_ne (tgt := 29) hx hb dX10_text_16 (by decide) (fun c9881 => ?_) (fun c9881 => ?_)
  · have k9882 := i_ne c9881
    refine lv_iload_n hx hb dX10_text_29 rfl (lv_at hl 1 rfl) ?_
    refine lv_iconst (v := 1) hx hb dX10_text_30 (by decide) ?_
    refine lv_icmp_ne (tgt := 48) hx hb dX10_text_31 (by decide) (fun c9883 => ?_) (fun c9883 => ?_)
    · have k9884 := i_ne c9883
      refine lv_iconst (v := 0) hx hb dX10_text_48 (by decide) ?_
      refine lv_istore_n (lv' := [(3, .int 0), (0, .ref a0), (1, .int x1), (2, .int x2)]) hx hb dX10_text_49 rfl hl (by decide) rfl (fun ls9885 hl9886 => ?_)
      refine lv_aload_n hx hb dX10_text_50 rfl (lv_at hl9886 1 rfl) ?_
      refine lv_iload_n hx hb dX10_text_51 rfl (lv_at hl9886 2 rfl) ?_
      refine lv_iconst (v := 1) hx hb dX10_text_52 (by decide) ?_
      refine lv_icmp_ne (tgt := 60) hx hb dX10_text_53 (by decide) (fun c9887 => ?_) (fun c9887 => ?_)
      · have k9888 := i_ne c9887
        refine lv_iconst (v := 0) hx hb dX10_text_60 (by decide) ?_
        exact J61 ls9885 H9864 locsH9864 (0) (0) (mn) (tq0) (lv_sub hl9886 [1, 2, 3, 0] rfl) hTH9864 hSH9864 (by decide) (by decide) ⟨by have := i_rng mn; omega, by have := i_rng mn; omega⟩ ⟨by have := i_rng tq0; omega, by have := i_rng tq0; omega⟩ m9876 m9877 m9870 m9871 m9872 m9873 m9874 m9875 mf9865 g9866 g9867 g9868 g9869 (by omega)
      · have k9888 := i_eq c9887
        refine lv_iconst (v := 1) hx hb dX10_text_56 (by decide) ?_
        refine lv_goto (tgt := 61) hx hb dX10_text_57 (by decide) ?_
        exact J61 ls9885 H9864 locsH9864 (0) (1) (mn) (tq0) (lv_sub hl9886 [1, 2, 3, 0] rfl) hTH9864 hSH9864 (by decide) (by decide) ⟨by have := i_rng mn; omega, by have := i_rng mn; omega⟩ ⟨by have := i_rng tq0; omega, by have := i_rng tq0; omega⟩ m9876 m9877 m9870 m9871 m9872 m9873 m9874 m9875 mf9865 g9866 g9867 g9868 g9869 (by omega)
    · have k9884 := i_eq c9883
      refine lv_aload_n hx hb dX10_text_34 rfl (lv_at hl 0 rfl) ?_
      refine lv_iload_n hx hb dX10_text_35 rfl (lv_at hl 2 rfl) ?_
      refine lv_iconst (v := 0) hx hb dX10_text_36 (by decide) ?_
      refine lv_iconst (v := 3) hx hb dX10_text_37 (by decide) ?_
      refine x_V (As := [.int x2, .int 0, .int 3]) (rest := []) C (c_X10_isIn l K G H9864 (x2) (0) (3) hTH9864 ga0) yo_X10_isIn wM_X10_177 ⟨⟨by decide, by decide⟩, by decide, by decide⟩ (x_rv C hTH9864 (ci := 10) rfl ga0 rg_112) rfl hl.1 rfl (Nat.le_of_ble_eq_true rfl) dX10_text_38 hSH9864 (AE_sub (fun _ _ => rfl) (by decide) hSH9864.1) (fun vH9889 H9889 locsH9889 pH9889 zH9889 kH9889 hSH9889 => ?_)
      have hqH9889 := pH9889.1.symm
      subst hqH9889
      rcases pH9889.2 with ⟨hvH9889, hcH9889⟩ | ⟨hvH9889, hcH9889⟩
      · subst hvH9889
        refine W.eq (g2 := F0 m 41 ls [.int 1]) rfl ?_
        refine lv_if_eq (tgt := 48) hx hb dX10_text_41 (by decide) (fun c9890 => ?_) (fun c9890 => ?_)
        · have k9891 := i_eq c9890
          exfalso
          omega
        · have k9891 := i_ne c9890
          refine lv_iconst (v := 1) hx hb dX10_text_44 (by decide) ?_
          refine lv_goto (tgt := 49) hx hb dX10_text_45 (by decide) ?_
          refine lv_istore_n (lv' := [(3, .int 1), (0, .ref a0), (1, .int x1), (2, .int x2)]) hx hb dX10_text_49 rfl hl (by decide) rfl (fun ls9892 hl9893 => ?_)
          refine lv_aload_n hx hb dX10_text_50 rfl (lv_at hl9893 1 rfl) ?_
          refine lv_iload_n hx hb dX10_text_51 rfl (lv_at hl9893 2 rfl) ?_
          refine lv_iconst (v := 1) hx hb dX10_text_52 (by decide) ?_
          refine lv_icmp_ne (tgt := 60) hx hb dX10_text_53 (by decide) (fun c9894 => ?_) (fun c9894 => ?_)
          · have k9895 := i_ne c9894
            exfalso
            omega
          · have k9895 := i_eq c9894
            refine lv_iconst (v := 1) hx hb dX10_text_56 (by decide) ?_
            refine lv_goto (tgt := 61) hx hb dX10_text_57 (by decide) ?_
            exact J61 ls9892 H9864 locsH9889 (1) (1) (mn) (tq0) (lv_sub hl9893 [1, 2, 3, 0] rfl) hTH9864 hSH9889 (by decide) (by decide) ⟨by have := i_rng mn; omega, by have := i_rng mn; omega⟩ ⟨by have := i_rng tq0; omega, by have := i_rng tq0; omega⟩ m9876 m9877 m9870 m9871 m9872 m9873 m9874 m9875 mf9865 g9866 g9867 g9868 g9869 (by omega)
      · subst hvH9889
        refine W.eq (g2 := F0 m 41 ls [.int 0]) rfl ?_
        refine lv_if_eq (tgt := 48) hx hb dX10_text_41 (by decide) (fun c9896 => ?_) (fun c9896 => ?_)
        · have k9897 := i_eq c9896
          refine lv_iconst (v := 0) hx hb dX10_text_48 (by decide) ?_
          refine lv_istore_n (lv' := [(3, .int 0), (0, .ref a0), (1, .int x1), (2, .int x2)]) hx hb dX10_text_49 rfl hl (by decide) rfl (fun ls9898 hl9899 => ?_)
          refine lv_aload_n hx hb dX10_text_50 rfl (lv_at hl9899 1 rfl) ?_
          refine lv_iload_n hx hb dX10_text_51 rfl (lv_at hl9899 2 rfl) ?_
          refine lv_iconst (v := 1) hx hb dX10_text_52 (by decide) ?_
          refine lv_icmp_ne (tgt := 60) hx hb dX10_text_53 (by decide) (fun c9900 => ?_) (fun c9900 => ?_)
          · have k9901 := i_ne c9900
            exfalso
            omega
          · have k9901 := i_eq c9900
            refine lv_iconst (v := 1) hx hb dX10_text_56 (by decide) ?_
            refine lv_goto (tgt := 61) hx hb dX10_text_57 (by decide) ?_
            exact J61 ls9898 H9864 locsH9889 (0) (1) (mn) (tq0) (lv_sub hl9899 [1, 2, 3, 0] rfl) hTH9864 hSH9889 (by decide) (by decide) ⟨by have := i_rng mn; omega, by have := i_rng mn; omega⟩ ⟨by have := i_rng tq0; omega, by have := i_rng tq0; omega⟩ m9876 m9877 m9870 m9871 m9872 m9873 m9874 m9875 mf9865 g9866 g9867 g9868 g9869 (by omega)
        · have k9897 := i_ne c9896
          exfalso
          omega
  · have k9882 := i_eq c9881
    refine lv_aload_n hx hb dX10_text_19 rfl (lv_at hl 0 rfl) ?_
    refine lv_iload_n hx hb dX10_text_20 rfl (lv_at hl 2 rfl) ?_
    refine lv_iconst (v := 0) hx hb dX10_text_21 (by decide) ?_
    refine lv_iconst (v := 1) hx hb dX10_text_22 (by decide) ?_
    refine x_V (As := [.int x2, .int 0, .int 1]) (rest := []) C (c_X10_isIn l K G H9864 (x2) (0) (1) hTH9864 ga0) yo_X10_isIn wM_X10_177 ⟨⟨by decide, by decide⟩, by decide, by decide⟩ (x_rv C hTH9864 (ci := 10) rfl ga0 rg_112) rfl hl.1 rfl (Nat.le_of_ble_eq_true rfl) dX10_text_23 hSH9864 (AE_sub (fun _ _ => rfl) (by decide) hSH9864.1) (fun vH9902 H9902 locsH9902 pH9902 zH9902 kH9902 hSH9902 => ?_)
    have hqH9902 := pH9902.1.symm
    subst hqH9902
    rcases pH9902.2 with ⟨hvH9902, hcH9902⟩ | ⟨hvH9902, hcH9902⟩
    · subst hvH9902
      refine W.eq (g2 := F0 m 26 ls [.int 1]) rfl ?_
      refine lv_if_ne (tgt := 44) hx hb dX10_text_26 (by decide) (fun c9903 => ?_) (fun c9903 => ?_)
      · have k9904 := i_ne c9903
        refine lv_iconst (v := 1) hx hb dX10_text_44 (by decide) ?_
        refine lv_goto (tgt := 49) hx hb dX10_text_45 (by decide) ?_
        refine lv_istore_n (lv' := [(3, .int 1), (0, .ref a0), (1, .int x1), (2, .int x2)]) hx hb dX10_text_49 rfl hl (by decide) rfl (fun ls9905 hl9906 => ?_)
        refine lv_aload_n hx hb dX10_text_50 rfl (lv_at hl9906 1 rfl) ?_
        refine lv_iload_n hx hb dX10_text_51 rfl (lv_at hl9906 2 rfl) ?_
        refine lv_iconst (v := 1) hx hb dX10_text_52 (by decide) ?_
        refine lv_icmp_ne (tgt := 60) hx hb dX10_text_53 (by decide) (fun c9907 => ?_) (fun c9907 => ?_)
        · have k9908 := i_ne c9907
          refine lv_iconst (v := 0) hx hb dX10_text_60 (by decide) ?_
          exact J61 ls9905 H9864 locsH9902 (1) (0) (mn) (tq0) (lv_sub hl9906 [1, 2, 3, 0] rfl) hTH9864 hSH9902 (by decide) (by decide) ⟨by have := i_rng mn; omega, by have := i_rng mn; omega⟩ ⟨by have := i_rng tq0; omega, by have := i_rng tq0; omega⟩ m9876 m9877 m9870 m9871 m9872 m9873 m9874 m9875 mf9865 g9866 g9867 g9868 g9869 (by omega)
        · have k9908 := i_eq c9907
          exfalso
          omega
      · have k9904 := i_eq c9903
        exfalso
        omega
    · subst hvH9902
      refine W.eq (g2 := F0 m 26 ls [.int 0]) rfl ?_
      refine lv_if_ne (tgt := 44) hx hb dX10_text_26 (by decide) (fun c9909 => ?_) (fun c9909 => ?_)
      · have k9910 := i_ne c9909
        exfalso
        omega
      · have k9910 := i_eq c9909
        refine lv_iload_n hx hb dX10_text_29 rfl (lv_at hl 1 rfl) ?_
        refine lv_iconst (v := 1) hx hb dX10_text_30 (by decide) ?_
        refine lv_icmp_ne (tgt := 48) hx hb dX10_text_31 (by decide) (fun c9911 => ?_) (fun c9911 => ?_)
        · have k9912 := i_ne c9911
          refine lv_iconst (v := 0) hx hb dX10_text_48 (by decide) ?_
          refine lv_istore_n (lv' := [(3, .int 0), (0, .ref a0), (1, .int x1), (2, .int x2)]) hx hb dX10_text_49 rfl hl (by decide) rfl (fun ls9913 hl9914 => ?_)
          refine lv_aload_n hx hb dX10_text_50 rfl (lv_at hl9914 1 rfl) ?_
          refine lv_iload_n hx hb dX10_text_51 rfl (lv_at hl9914 2 rfl) ?_
          refine lv_iconst (v := 1) hx hb dX10_text_52 (by decide) ?_
          refine lv_icmp_ne (tgt := 60) hx hb dX10_text_53 (by decide) (fun c9915 => ?_) (fun c9915 => ?_)
          · have k9916 := i_ne c9915
            refine lv_iconst (v := 0) hx hb dX10_text_60 (by decide) ?_
            exact J61 ls9913 H9864 locsH9902 (0) (0) (mn) (tq0) (lv_sub hl9914 [1, 2, 3, 0] rfl) hTH9864 hSH9902 (by decide) (by decide) ⟨by have := i_rng mn; omega, by have := i_rng mn; omega⟩ ⟨by have := i_rng tq0; omega, by have := i_rng tq0; omega⟩ m9876 m9877 m9870 m9871 m9872 m9873 m9874 m9875 mf9865 g9866 g9867 g9868 g9869 (by omega)
          · have k9916 := i_eq c9915
            exfalso
            omega
        · have k9912 := i_eq c9911
          exfalso
          omega
