set_option maxHeartbeats 4000000 in
set_option maxRecDepth 100000 in
theorem a_X10_text_gl (l : Launch) (K : KE) (G : Nat → Option Nat) (H : Heap) {a0 : Nat} (x1 : Int32) (x2 : Int32) {oq : Nat} {aq : Nat} {f9 : Nat} {f0 : Nat} {f1 : Nat} {mq : Nat} {tq : Nat} {l1 : Nat} {l2 : Nat} {l3 : Nat} {lsq : Nat} (mn : Int32) (tp : Int32) (bt : Nat → Int) (hT : TY K G H) (ga0 : G a0 = some 112) (hx1 : 0 ≤ x1.toInt ∧ x1.toInt ≤ 0) (hx2 : 0 ≤ x2.toInt ∧ x2.toInt ≤ 1) (goq : G oq = some 136) (eoq : @Eq Ad oq (fR H a0 (K.1.2 10 32))) (gaq : G aq = some 137) (eaq : @Eq Ad aq (fR H a0 (K.1.2 10 33))) (gf9 : G f9 = some 133) (ef9 : @Eq Ad f9 (fR H a0 (K.1.2 10 29))) (gf0 : G f0 = some 134) (ef0 : @Eq Ad f0 (fR H a0 (K.1.2 10 30))) (gf1 : G f1 = some 135) (ef1 : @Eq Ad f1 (fR H a0 (K.1.2 10 31))) (gmq : G mq = some 128) (emq : @Eq Ad mq (fR H a0 (K.1.2 10 24))) (gtq : G tq = some 126) (etq : @Eq Ad tq (fR H a0 (K.1.2 10 17))) (gl1 : G l1 = some 130) (el1 : @Eq Ad l1 (fR H a0 (K.1.2 10 26))) (gl2 : G l2 = some 131) (el2 : @Eq Ad l2 (fR H a0 (K.1.2 10 27))) (gl3 : G l3 = some 132) (el3 : @Eq Ad l3 (fR H a0 (K.1.2 10 28))) (glsq : G lsq = some 129) (elsq : @Eq Ad lsq (fR H a0 (K.1.2 10 25))) (emn : mn = fI H a0 (K.1.2 10 35)) (etp : tp = fI H a0 (K.1.2 10 18)) (hg_CG : CG (avw K H a0)) (hg_TU : TU (avw K H a0) (svw K H a0)) (hg_WD : WD (avw K H a0)) (hg_IM : IM (avw K H a0)) (hy0 : True) (hy1 : ∀ j : Nat, j < tp.toNatClampNeg → 0 ≤ bt j) (hv_bt : ∀ j : Nat, bt j = (fI H tq j).toInt) : MX l K yX10_text cX10_text 7 (some .int) 10 215 0 0 [.ref a0, .int x1, .int x2] H (AE G [112, 136, 137, 138, 129, 130, 131, 132, 133, 134, 135, 128] H.size) (fun v H1 => ∃ (r : Int32) (t0 : Int32) (t1 : Int32), v = some (.int r) ∧ t0 = fI H1 a0 (K.1.2 10 35) ∧ t1 = fI H1 a0 (K.1.2 10 18) ∧ (t1.toInt = 0) ∧ @Eq Ad oq (fR H1 a0 (K.1.2 10 32)) ∧ @Eq Ad aq (fR H1 a0 (K.1.2 10 33)) ∧ @Eq Ad f9 (fR H1 a0 (K.1.2 10 29)) ∧ @Eq Ad f0 (fR H1 a0 (K.1.2 10 30)) ∧ @Eq Ad f1 (fR H1 a0 (K.1.2 10 31)) ∧ @Eq Ad mq (fR H1 a0 (K.1.2 10 24)) ∧ @Eq Ad tq (fR H1 a0 (K.1.2 10 17)) ∧ @Eq Ad l1 (fR H1 a0 (K.1.2 10 26)) ∧ @Eq Ad l2 (fR H1 a0 (K.1.2 10 27)) ∧ @Eq Ad l3 (fR H1 a0 (K.1.2 10 28)) ∧ @Eq Ad lsq (fR H1 a0 (K.1.2 10 25)) ∧ (CG (avw K H1 a0)) ∧ (TU (avw K H1 a0) (svw K H1 a0)) ∧ (WD (avw K H1 a0)) ∧ (IM (avw K H1 a0)) ∧ MF K H H1 a0 [0, 18, 19, 20, 21, 22, 34, 35, 36, 38, 39, 40, 41, 42] ∧ (TXA bt tp.toNatClampNeg x1 x2 r) ∧ ((r.toInt = -1) ∨ (∃ n : Nat, r.toInt = (n : Int) ∧ n ≤ 16 ∧ fI H1 mq x2.toNatClampNeg = r ∧ TXMR K H1 a0 x2.toNatClampNeg (kK bt tp.toNatClampNeg) (vV bt tp.toNatClampNeg) 1 n)) ∧ (RWK H1 H lsq l1 l2 l3 f9 f0 f1 oq aq mq x2.toNatClampNeg) ∧ ((r.toInt ≠ -1) ∨ (FRD H1 H lsq l1 l2 l3 f9 f0 f1 oq aq ∧ ∀ l, fI H1 mq l = fI H mq l)) ∧ TY K G H1) := by
  refine MX.of (by decide +kernel) (Nat.le_of_ble_eq_true rfl) ?_
  intro p e s m below meth c ls Q C hH hl hQ
  subst hH
  have C : CX p K s m _ meth c RX10 cX10_text 7 (some .int) "text" := C
  obtain ⟨hx, hb, hml, hown, hts, hKT, hr, hlocks, hnm⟩ := id C
  have hl : lv_has ls 7 [(0, .ref a0), (1, .int x1), (2, .int x2)] := hl
  have hS : va_S (AE G [112, 136, 137, 138, 129, 130, 131, 132, 133, 134, 135, 128] s.heap.size) s.heap s.heap [] := va_S.rf
  have n_m1 : ((-1) : Int32).toInt = -1 := rfl
  have n_0 : (0 : Int32).toInt = 0 := rfl
  have n_1 : (1 : Int32).toInt = 1 := rfl
  have n_16 : (16 : Int32).toInt = 16 := rfl
  have n_96 : (96 : Int32).toInt = 96 := rfl
  have n_500 : (500 : Int32).toInt = 500 := rfl
  have n_3000 : (3000 : Int32).toInt = 3000 := rfl
  have bmn := ty_fi (x := mn) (k := 35) emn hT ga0 rg_112 rfl
  have btp := ty_fi (x := tp) (k := 18) etp hT ga0 rg_112 rfl
  have hap : ∀ x y, x < 74 → y < 74 → x ≠ y → K.1.2 10 x ≠ K.1.2 10 y := x_apart hKT hts inX10 tyX10 tyX10_ok nmX10 rfl
  have mf0 : MF K s.heap s.heap a0 [0, 18, 19, 20, 21, 22, 34, 35, 36, 38, 39, 40, 41, 42] := fun _ _ _ => rfl
  replace eoq := EQN.mk eoq
  replace eaq := EQN.mk eaq
  replace ef9 := EQN.mk ef9
  replace ef0 := EQN.mk ef0
  replace ef1 := EQN.mk ef1
  replace emq := EQN.mk emq
  replace etq := EQN.mk etq
  replace el1 := EQN.mk el1
  replace el2 := EQN.mk el2
  replace el3 := EQN.mk el3
  replace elsq := EQN.mk elsq
  have f0_bt := hv_bt
  have f0_mo : ∀ j : Nat, fI s.heap mq j = fI s.heap mq j := fun _ => rfl
  have J149 : ∀  (ls11154 : Array Slot) (H11153 : Heap) (locsH11153 : List Loc) (x11156 : Int32) (x11157 : Int32) (x11158 : Int32) (x11159 : Int32), lv_has ls11154 7 [(0, .ref a0), (4, .int x11156), (5, .int x11157)] → TY K G H11153 → va_S (AE G [112, 136, 137, 138, 129, 130, 131, 132, 133, 134, 135, 128] s.heap.size) s.heap H11153 locsH11153 → (0 ≤ x11156.toInt ∧ x11156.toInt ≤ 16) → (0 ≤ x11157.toInt ∧ x11157.toInt ≤ 1) → (0 ≤ x11158.toInt ∧ x11158.toInt ≤ 500) → (0 ≤ x11159.toInt ∧ x11159.toInt ≤ 0) → (x11158 = fI H11153 a0 (K.1.2 10 35)) → (x11159 = fI H11153 a0 (K.1.2 10 18)) → (EQN oq (fR H11153 a0 (K.1.2 10 32))) → (EQN aq (fR H11153 a0 (K.1.2 10 33))) → (EQN f9 (fR H11153 a0 (K.1.2 10 29))) → (EQN f0 (fR H11153 a0 (K.1.2 10 30))) → (EQN f1 (fR H11153 a0 (K.1.2 10 31))) → (EQN mq (fR H11153 a0 (K.1.2 10 24))) → (EQN tq (fR H11153 a0 (K.1.2 10 17))) → (EQN l1 (fR H11153 a0 (K.1.2 10 26))) → (EQN l2 (fR H11153 a0 (K.1.2 10 27))) → (EQN l3 (fR H11153 a0 (K.1.2 10 28))) → (EQN lsq (fR H11153 a0 (K.1.2 10 25))) → (MF K s.heap H11153 a0 [0, 18, 19, 20, 21, 22, 34, 35, 36, 38, 39, 40, 41, 42]) → (CG (avw K H11153 a0)) → (TU (avw K H11153 a0) (svw K H11153 a0)) → (WD (avw K H11153 a0)) → (IM (avw K H11153 a0)) → (∀ j : Nat, bt j = (fI H11153 tq j).toInt) → (∀ j : Nat, fI H11153 mq j = fI s.heap mq j) → (x11159.toInt = 0 ∧ x11157.toInt = x2.toInt + 0) → (DL (fun k => fI H11153 f9 k) (fun k => fI H11153 f0 k) (fun k => fI H11153 f1 k) (fun k => fI H11153 oq k) (fun k => fI H11153 aq k) x11156.toNatClampNeg x11158.toInt) → (HD (TXA bt tp.toNatClampNeg x1 x2 x11156)) → (HD (∃ i, TXRW H11153 lsq l1 l2 l3 f9 f0 f1 oq aq (kK bt tp.toNatClampNeg) (vV bt tp.toNatClampNeg) 1 x11156.toNatClampNeg i x11158.toNatClampNeg)) → (HD (FRD H11153 s.heap lsq l1 l2 l3 f9 f0 f1 oq aq)) → W p l e ({ frames := 10, cells := 0, slots := 0, locals := 215 } : Room) s m (([.ref a0, .int x1, .int x2] : List Value).toArray) below meth c H11153 locsH11153 0 0 Q (F0 m 149 ls11154 []) := by
    intro  ls11154 H11153 locsH11153 x11156 x11157 x11158 x11159 hl11155 hTH11153 hSH11153 bx11156 bx11157 bx11158 bx11159 ex11158 ex11159 cy11160_0 cy11160_1 cy11160_2 cy11160_3 cy11160_4 cy11160_5 cy11160_6 cy11160_7 cy11160_8 cy11160_9 cy11160_10 mfy11160 gy11160_CG gy11160_TU gy11160_WD gy11160_IM fy11160_bt fy11160_mo iv149 hDL htx149 hTR149 hFR149
    have J329 : ∀ (nf : Nat) (ls11162 : Array Slot) (H11161 : Heap) (locsH11161 : List Loc) (x11164 : Int32) (x11165 : Int32) (x11166 : Int32), lv_has ls11162 7 [(0, .ref a0), (4, .int x11156), (5, .int x11157), (6, .int x11164)] → TY K G H11161 → va_S (AE G [112, 136, 137, 138, 129, 130, 131, 132, 133, 134, 135, 128] s.heap.size) s.heap H11161 locsH11161 → (0 ≤ x11164.toInt ∧ x11164.toInt ≤ 500) → (0 ≤ x11165.toInt ∧ x11165.toInt ≤ 500) → (0 ≤ x11166.toInt ∧ x11166.toInt ≤ 0) → (x11165 = fI H11161 a0 (K.1.2 10 35)) → (x11166 = fI H11161 a0 (K.1.2 10 18)) → (EQN oq (fR H11161 a0 (K.1.2 10 32))) → (EQN aq (fR H11161 a0 (K.1.2 10 33))) → (EQN f9 (fR H11161 a0 (K.1.2 10 29))) → (EQN f0 (fR H11161 a0 (K.1.2 10 30))) → (EQN f1 (fR H11161 a0 (K.1.2 10 31))) → (EQN mq (fR H11161 a0 (K.1.2 10 24))) → (EQN tq (fR H11161 a0 (K.1.2 10 17))) → (EQN l1 (fR H11161 a0 (K.1.2 10 26))) → (EQN l2 (fR H11161 a0 (K.1.2 10 27))) → (EQN l3 (fR H11161 a0 (K.1.2 10 28))) → (EQN lsq (fR H11161 a0 (K.1.2 10 25))) → (CP (fun k => fI H11161 f9 k) (fun k => fI H11153 f9 k) (16 * x11157.toNatClampNeg) (96) (x11156.toNatClampNeg)) → (CP (fun k => fI H11161 f0 k) (fun k => fI H11153 f0 k) (16 * x11157.toNatClampNeg) (96) (x11156.toNatClampNeg)) → (CP (fun k => fI H11161 f1 k) (fun k => fI H11153 f1 k) (16 * x11157.toNatClampNeg) (96) (x11156.toNatClampNeg)) → (CP (fun k => fI H11161 oq k) (fun k => fI H11153 oq k) (500 * x11157.toNatClampNeg) (3000) (x11164.toNatClampNeg)) → (CP (fun k => fI H11161 aq k) (fun k => fI H11153 aq k) (500 * x11157.toNatClampNeg) (3000) (x11164.toNatClampNeg)) → (CP (fun k => fI H11161 mq k) (fun k => fI H11153 mq k) (0) (0) (0)) → (CP (fun k => fI H11161 lsq k) (fun k => fI H11153 lsq k) (16 * x11157.toNatClampNeg) (96) (x11156.toNatClampNeg)) → (CP (fun k => fI H11161 l1 k) (fun k => fI H11153 l1 k) (16 * x11157.toNatClampNeg) (96) (x11156.toNatClampNeg)) → (CP (fun k => fI H11161 l2 k) (fun k => fI H11153 l2 k) (16 * x11157.toNatClampNeg) (96) (x11156.toNatClampNeg)) → (CP (fun k => fI H11161 l3 k) (fun k => fI H11153 l3 k) (16 * x11157.toNatClampNeg) (96) (x11156.toNatClampNeg)) → (MF K s.heap H11161 a0 [0, 18, 19, 20, 21, 22, 34, 35, 36, 38, 39, 40, 41, 42]) → (TU (avw K H11161 a0) (svw K H11161 a0)) → (WD (avw K H11161 a0)) → (IM (avw K H11161 a0)) → (∀ j : Nat, bt j = (fI H11161 tq j).toInt) → (∀ j : Nat, fI H11161 mq j = fI s.heap mq j) → (500 - x11164.toInt < (nf : Int)) → (x11165.toInt = x11158.toInt ∧ x11166.toInt = 0) → W p l e ({ frames := 10, cells := 0, slots := 0, locals := 215 } : Room) s m (([.ref a0, .int x1, .int x2] : List Value).toArray) below meth c H11161 locsH11161 0 0 Q (F0 m 329 ls11162 []) := by
      intro nf
      induction nf with
      | zero =>
        intro ls11162 H11161 locsH11161 x11164 x11165 x11166 hl11163 hTH11161 hSH11161 bx11164 bx11165 bx11166 ex11165 ex11166 cy11167_0 cy11167_1 cy11167_2 cy11167_3 cy11167_4 cy11167_5 cy11167_6 cy11167_7 cy11167_8 cy11167_9 cy11167_10 by11167_c9 by11167_c0 by11167_c1 by11167_co by11167_ca by11167_cm by11167_cs by11167_cA by11167_cB by11167_cD mfy11167 gy11167_TU gy11167_WD gy11167_IM fy11167_bt fy11167_mo hm329 iv329
        exfalso
        omega
      | succ nf ih329 =>
        intro ls11162 H11161 locsH11161 x11164 x11165 x11166 hl11163 hTH11161 hSH11161 bx11164 bx11165 bx11166 ex11165 ex11166 cy11167_0 cy11167_1 cy11167_2 cy11167_3 cy11167_4 cy11167_5 cy11167_6 cy11167_7 cy11167_8 cy11167_9 cy11167_10 by11167_c9 by11167_c0 by11167_c1 by11167_co by11167_ca by11167_cm by11167_cs by11167_cA by11167_cB by11167_cD mfy11167 gy11167_TU gy11167_WD gy11167_IM fy11167_bt fy11167_mo hm329 iv329
        refine lv_iload hx hb dX10_text_329 (lv_at hl11163 3 rfl) ?_
        refine lv_aload_n hx hb dX10_text_331 rfl (lv_at hl11163 0 rfl) ?_
        refine x_gi C hTH11161 (ci := 10) (k := 35) rfl inX10 (by decide) wF_X10_228 ga0 rg_112 rfl dX10_text_332 (fun x11168 ex11168 bx11168 => ?_)
        have ux11168 : x11165 = x11168 := (ex11165).trans ex11168.symm
        subst ux11168
        refine lv_icmp_ge (tgt := 394) hx hb dX10_text_335 (by decide) (fun c11169 => ?_) (fun c11169 => ?_)
        · have k11170 := i_le c11169
          refine lv_aload_n hx hb dX10_text_394 rfl (lv_at hl11163 0 rfl) ?_
          refine x_gr C hTH11161 (ci := 10) (k := 24) rfl inX10 (by decide) wF_X10_59 ga0 rg_112 rfl dX10_text_395 (fun q11171 eq11171 gq11171 => ?_)
          have uq11171 : mq = q11171 := (cy11167_5).trans eq11171.symm
          subst uq11171
          clear eq11171
          refine lv_iload hx hb dX10_text_398 (lv_at hl11163 2 rfl) ?_
          refine lv_iload hx hb dX10_text_400 (lv_at hl11163 1 rfl) ?_
          have mo9 := fy11167_mo
          refine x_iast C hTH11161 hSH11161 gmq rg_128 bx11157.1 (Int.lt_of_le_of_lt bx11157.2 (by decide)) ⟨Int.le_trans (by decide) bx11156.1, Int.le_trans bx11156.2 (by decide)⟩ (AE_in gmq (by decide)) dX10_text_402 (fun H11172 locsH11172 hTH11172 hSH11172 wH11172 => ?_)
          have mf11173 : MF K s.heap H11172 a0 [0, 18, 19, 20, 21, 22, 34, 35, 36, 38, 39, 40, 41, 42] := MF.arr wH11172 (G_ne ga0 gmq (by decide)) mfy11167
          have g11174 : TU (avw K H11172 a0) (svw K H11172 a0) := TU.congr (fun k hk j => av_arr hTH11161 ga0 wH11172 gmq (by decide) (TU_ok 128 (by decide) k hk)) (fun k hk => sv_arr ga0 wH11172 gmq (by decide)) gy11167_TU
          have g11175 : WD (avw K H11172 a0) := WD.congr (fun k hk j => av_arr hTH11161 ga0 wH11172 gmq (by decide) (WD_ok 128 (by decide) k hk)) gy11167_WD
          have g11176 : IM (avw K H11172 a0) := IM.congr (fun k hk j => av_arr hTH11161 ga0 wH11172 gmq (by decide) (IM_ok 128 (by decide) k hk)) gy11167_IM
          have b11177 : CP (fun k => fI H11172 f9 k) (fun k => fI H11153 f9 k) (16 * x11157.toNatClampNeg) (96) (x11156.toNatClampNeg) := CP.congr (fun j => Wr.neI wH11172 (Or.inl (G_ne gf9 gmq (by decide)))) by11167_c9
          have b11178 : CP (fun k => fI H11172 f0 k) (fun k => fI H11153 f0 k) (16 * x11157.toNatClampNeg) (96) (x11156.toNatClampNeg) := CP.congr (fun j => Wr.neI wH11172 (Or.inl (G_ne gf0 gmq (by decide)))) by11167_c0
          have b11179 : CP (fun k => fI H11172 f1 k) (fun k => fI H11153 f1 k) (16 * x11157.toNatClampNeg) (96) (x11156.toNatClampNeg) := CP.congr (fun j => Wr.neI wH11172 (Or.inl (G_ne gf1 gmq (by decide)))) by11167_c1
          have b11180 : CP (fun k => fI H11172 oq k) (fun k => fI H11153 oq k) (500 * x11157.toNatClampNeg) (3000) (x11164.toNatClampNeg) := CP.congr (fun j => Wr.neI wH11172 (Or.inl (G_ne goq gmq (by decide)))) by11167_co
          have b11181 : CP (fun k => fI H11172 aq k) (fun k => fI H11153 aq k) (500 * x11157.toNatClampNeg) (3000) (x11164.toNatClampNeg) := CP.congr (fun j => Wr.neI wH11172 (Or.inl (G_ne gaq gmq (by decide)))) by11167_ca
          have b11182 : CP (fun k => fI H11172 lsq k) (fun k => fI H11153 lsq k) (16 * x11157.toNatClampNeg) (96) (x11156.toNatClampNeg) := CP.congr (fun j => Wr.neI wH11172 (Or.inl (G_ne glsq gmq (by decide)))) by11167_cs
          have b11183 : CP (fun k => fI H11172 l1 k) (fun k => fI H11153 l1 k) (16 * x11157.toNatClampNeg) (96) (x11156.toNatClampNeg) := CP.congr (fun j => Wr.neI wH11172 (Or.inl (G_ne gl1 gmq (by decide)))) by11167_cA
          have b11184 : CP (fun k => fI H11172 l2 k) (fun k => fI H11153 l2 k) (16 * x11157.toNatClampNeg) (96) (x11156.toNatClampNeg) := CP.congr (fun j => Wr.neI wH11172 (Or.inl (G_ne gl2 gmq (by decide)))) by11167_cB
          have b11185 : CP (fun k => fI H11172 l3 k) (fun k => fI H11153 l3 k) (16 * x11157.toNatClampNeg) (96) (x11156.toNatClampNeg) := CP.congr (fun j => Wr.neI wH11172 (Or.inl (G_ne gl3 gmq (by decide)))) by11167_cD
          have f11186 : ∀ j : Nat, bt j = (fI H11172 tq j).toInt := fun j => (fy11167_bt j).trans (congrArg Int32.toInt (Wr.neI wH11172 (Or.inl (G_ne gtq gmq (by decide)))).symm)
          have m11187 := ex11165.trans (Wr.neI wH11172 (Or.inl (G_ne ga0 gmq (by decide)))).symm
          have m11188 := ex11166.trans (Wr.neI wH11172 (Or.inl (G_ne ga0 gmq (by decide)))).symm
          have m11189 := cy11167_0.trans (Wr.neR wH11172 (Or.inl (G_ne ga0 gmq (by decide)))).symm
          have m11190 := cy11167_1.trans (Wr.neR wH11172 (Or.inl (G_ne ga0 gmq (by decide)))).symm
          have m11191 := cy11167_2.trans (Wr.neR wH11172 (Or.inl (G_ne ga0 gmq (by decide)))).symm
          have m11192 := cy11167_3.trans (Wr.neR wH11172 (Or.inl (G_ne ga0 gmq (by decide)))).symm
          have m11193 := cy11167_4.trans (Wr.neR wH11172 (Or.inl (G_ne ga0 gmq (by decide)))).symm
          have m11194 := cy11167_5.trans (Wr.neR wH11172 (Or.inl (G_ne ga0 gmq (by decide)))).symm
          have m11195 := cy11167_6.trans (Wr.neR wH11172 (Or.inl (G_ne ga0 gmq (by decide)))).symm
          have m11196 := cy11167_7.trans (Wr.neR wH11172 (Or.inl (G_ne ga0 gmq (by decide)))).symm
          have m11197 := cy11167_8.trans (Wr.neR wH11172 (Or.inl (G_ne ga0 gmq (by decide)))).symm
          have m11198 := cy11167_9.trans (Wr.neR wH11172 (Or.inl (G_ne ga0 gmq (by decide)))).symm
          have m11199 := cy11167_10.trans (Wr.neR wH11172 (Or.inl (G_ne ga0 gmq (by decide)))).symm
          have m11200 := Wr.I wH11172
          have m11200 := m11200.symm
          clear by11167_c0 by11167_c1 by11167_c9 by11167_cA by11167_cB by11167_cD by11167_ca by11167_co by11167_cs cy11167_0 cy11167_1 cy11167_10 cy11167_2 cy11167_3 cy11167_4 cy11167_5 cy11167_6 cy11167_7 cy11167_8 cy11167_9 ex11165 ex11166 fy11167_bt fy11167_mo gy11167_IM gy11167_TU gy11167_WD hTH11161 mfy11167
          have cf_x11156 := i_cl (x := x11156) bx11156.1
          have cf_x11157 := i_cl (x := x11157) bx11157.1
          have cf_x11164 := i_cl (x := x11164) bx11164.1
          have cf_x11165 := i_cl (x := x11165) bx11165.1
          have cgz : CG (avw K H11172 a0) := CG.fin (row := x11157.toNatClampNeg) (n := x11156.toNatClampNeg) (i := x11164.toNatClampNeg) hTH11153 ga0 cy11160_5 cy11160_2 cy11160_3 cy11160_4 cy11160_0 cy11160_1 m11194 m11191 m11192 m11193 m11189 m11190 gy11160_CG  hDL (by omega) (by omega) (by omega) (by omega) (CP.cast b11177 (by omega) (by omega) (by omega)) (CP.cast b11178 (by omega) (by omega) (by omega)) (CP.cast b11179 (by omega) (by omega) (by omega)) (CP.cast b11180 (by omega) (by omega) (by omega)) (CP.cast b11181 (by omega) (by omega) (by omega)) (by rw [Wr.I wH11172]; omega) (fun j hj => (Wr.neI wH11172 (Or.inr hj)).trans (by11167_cm.2 j (Or.inr (by omega))))
          refine lv_iload hx hb dX10_text_403 (lv_at hl11163 1 rfl) ?_
          have cn_x11157 := i_cl (x := x11157) bx11157.1
          have cn_x11156 := i_cl (x := x11156) bx11156.1
          have cn_x11165 := i_cl (x := x11165) bx11165.1
          have cn_x11164 := i_cl (x := x11164) bx11164.1
          have cn_x2 := i_cl (x := x2) (by omega)
          have cn_x11158 := i_cl (x := x11158) bx11158.1
          obtain ⟨ti_, htr_⟩ := HD.get hTR149
          have cps_ : CP (fun k => fI H11172 lsq k) (fun k => fI H11153 lsq k) (16 * x2.toNatClampNeg) 96 x11156.toNatClampNeg ∧ CP (fun k => fI H11172 l1 k) (fun k => fI H11153 l1 k) (16 * x2.toNatClampNeg) 96 x11156.toNatClampNeg ∧ CP (fun k => fI H11172 l2 k) (fun k => fI H11153 l2 k) (16 * x2.toNatClampNeg) 96 x11156.toNatClampNeg ∧ CP (fun k => fI H11172 l3 k) (fun k => fI H11153 l3 k) (16 * x2.toNatClampNeg) 96 x11156.toNatClampNeg ∧ CP (fun k => fI H11172 f9 k) (fun k => fI H11153 f9 k) (16 * x2.toNatClampNeg) 96 x11156.toNatClampNeg ∧ CP (fun k => fI H11172 f0 k) (fun k => fI H11153 f0 k) (16 * x2.toNatClampNeg) 96 x11156.toNatClampNeg ∧ CP (fun k => fI H11172 f1 k) (fun k => fI H11153 f1 k) (16 * x2.toNatClampNeg) 96 x11156.toNatClampNeg ∧ CP (fun k => fI H11172 oq k) (fun k => fI H11153 oq k) (500 * x2.toNatClampNeg) 3000 x11164.toNatClampNeg ∧ CP (fun k => fI H11172 aq k) (fun k => fI H11153 aq k) (500 * x2.toNatClampNeg) 3000 x11164.toNatClampNeg := ⟨CP.cast b11182 (by omega) rfl (by omega), CP.cast b11183 (by omega) rfl (by omega), CP.cast b11184 (by omega) rfl (by omega), CP.cast b11185 (by omega) rfl (by omega), CP.cast b11177 (by omega) rfl (by omega), CP.cast b11178 (by omega) rfl (by omega), CP.cast b11179 (by omega) rfl (by omega), CP.cast b11180 (by omega) rfl (by omega), CP.cast b11181 (by omega) rfl (by omega)⟩
          obtain ⟨cp0_, cp1_, cp2_, cp3_, cp4_, cp5_, cp6_, cp7_, cp8_⟩ := cps_
          have rwe_ : x11157.toNatClampNeg = x2.toNatClampNeg := by omega
          have mq1_ : fI H11172 mq x2.toNatClampNeg = x11156 := by rw [← rwe_]; exact Wr.I wH11172
          have mq2_ : ∀ l, l ≠ x2.toNatClampNeg → fI H11172 mq l = fI s.heap mq l := fun l hl => (Wr.neI wH11172 (Or.inr (by rw [rwe_]; exact hl))).trans (mo9 l)
          exact x_iret C hQ dX10_text_405 hSH11172 (by decide) (by decide) (⟨x11156, x11165, x11166, rfl, m11187, m11188, by omega, m11189, m11190, m11191, m11192, m11193, m11194, m11195, m11196, m11197, m11198, m11199, cgz, g11174, g11175, g11176, mf11173, ((HD.get htx149).cast (by omega)), Or.inr ⟨x11156.toNatClampNeg, by omega, by omega, mq1_, TXRW.fin htr_ rfl (by omega) cp0_ cp1_ cp2_ cp3_ cp4_ cp5_ cp6_ cp7_ cp8_ m11199 m11196 m11197 m11198 m11191 m11192 m11193 m11189 m11190⟩, (RWK.fin (HD.get hFR149) (by omega) (by omega) cp0_ cp1_ cp2_ cp3_ cp4_ cp5_ cp6_ cp7_ cp8_ mq2_), Or.inl (by omega), hTH11172⟩)
        · have k11170 := i_nle c11169
          have hrw : 0 ≤ x11157.toInt ∧ x11157.toInt ≤ 5 := ⟨by omega, by omega⟩
          have hlw : 0 ≤ x11164.toInt ∧ x11164.toInt ≤ 499 := ⟨by omega, by omega⟩
          refine lv_aload_n hx hb dX10_text_338 rfl (lv_at hl11163 0 rfl) ?_
          refine x_gr C hTH11161 (ci := 10) (k := 32) rfl inX10 (by decide) wF_X10_83 ga0 rg_112 rfl dX10_text_339 (fun q11201 eq11201 gq11201 => ?_)
          have uq11201 : oq = q11201 := (cy11167_0).trans eq11201.symm
          subst uq11201
          clear eq11201
          refine lv_sipush (v := 500) hx hb dX10_text_342 (by decide) ?_
          refine lv_iload hx hb dX10_text_345 (lv_at hl11163 2 rfl) ?_
          refine lv_imul hx hb dX10_text_347 ?_
          refine lv_topi (fun x11202 ex11202 => ?_)
          have tx11202 := i_mul ex11202 (by rw [n_500]; omega)
          rw [n_500] at tx11202
          refine lv_iload hx hb dX10_text_348 (lv_at hl11163 3 rfl) ?_
          refine lv_iadd hx hb dX10_text_350 ?_
          refine lv_topi (fun x11203 ex11203 => ?_)
          have tx11203 := i_add ex11203 (by omega)
          refine lv_aload_n hx hb dX10_text_351 rfl (lv_at hl11163 0 rfl) ?_
          refine x_gr C hTH11161 (ci := 10) (k := 32) rfl inX10 (by decide) wF_X10_83 ga0 rg_112 rfl dX10_text_352 (fun q11204 eq11204 gq11204 => ?_)
          have uq11204 : oq = q11204 := (cy11167_0).trans eq11204.symm
          subst uq11204
          clear eq11204
          refine lv_sipush (v := 3000) hx hb dX10_text_355 (by decide) ?_
          refine lv_iload hx hb dX10_text_358 (lv_at hl11163 3 rfl) ?_
          refine lv_iadd hx hb dX10_text_360 ?_
          refine lv_topi (fun x11205 ex11205 => ?_)
          have tx11205 := i_add ex11205 (by omega)
          refine x_ai C hTH11161 goq rg_136 ⟨by omega, by show _ < ((3500 : Nat) : Int); omega⟩ dX10_text_361 (fun x11206 ex11206 bx11206 => ?_)
          refine x_iast C hTH11161 hSH11161 goq rg_136 (by omega) (by show _ < ((3500 : Nat) : Int); omega) (i_rng x11206) (AE_in goq (by decide)) dX10_text_362 (fun H11207 locsH11207 hTH11207 hSH11207 wH11207 => ?_)
          have mf11208 : MF K s.heap H11207 a0 [0, 18, 19, 20, 21, 22, 34, 35, 36, 38, 39, 40, 41, 42] := MF.arr wH11207 (G_ne ga0 goq (by decide)) mfy11167
          have g11209 : TU (avw K H11207 a0) (svw K H11207 a0) := TU.congr (fun k hk j => av_arr hTH11161 ga0 wH11207 goq (by decide) (TU_ok 136 (by decide) k hk)) (fun k hk => sv_arr ga0 wH11207 goq (by decide)) gy11167_TU
          have g11210 : WD (avw K H11207 a0) := WD.congr (fun k hk j => av_arr hTH11161 ga0 wH11207 goq (by decide) (WD_ok 136 (by decide) k hk)) gy11167_WD
          have g11211 : IM (avw K H11207 a0) := IM.congr (fun k hk j => av_arr hTH11161 ga0 wH11207 goq (by decide) (IM_ok 136 (by decide) k hk)) gy11167_IM
          have b11212 : CP (fun k => fI H11207 f9 k) (fun k => fI H11153 f9 k) (16 * x11157.toNatClampNeg) (96) (x11156.toNatClampNeg) := CP.congr (fun j => Wr.neI wH11207 (Or.inl (G_ne gf9 goq (by decide)))) by11167_c9
          have b11213 : CP (fun k => fI H11207 f0 k) (fun k => fI H11153 f0 k) (16 * x11157.toNatClampNeg) (96) (x11156.toNatClampNeg) := CP.congr (fun j => Wr.neI wH11207 (Or.inl (G_ne gf0 goq (by decide)))) by11167_c0
          have b11214 : CP (fun k => fI H11207 f1 k) (fun k => fI H11153 f1 k) (16 * x11157.toNatClampNeg) (96) (x11156.toNatClampNeg) := CP.congr (fun j => Wr.neI wH11207 (Or.inl (G_ne gf1 goq (by decide)))) by11167_c1
          have b11215 : CP (fun k => fI H11207 oq k) (fun k => fI H11153 oq k) (500 * x11157.toNatClampNeg) (3000) (x11164.toNatClampNeg + 1) := CP.step by11167_co (i := x11203.toNatClampNeg) (k := x11205.toNatClampNeg) (x := x11206) (ix500 tx11202 tx11203 hrw.1 hlw.1) (le500 hrw hlw) (ixk n_3000 tx11205 hlw.1) ex11206 (Wr.I wH11207) (fun j hj => Wr.neI wH11207 (Or.inr hj))
          have b11216 : CP (fun k => fI H11207 aq k) (fun k => fI H11153 aq k) (500 * x11157.toNatClampNeg) (3000) (x11164.toNatClampNeg) := CP.congr (fun j => Wr.neI wH11207 (Or.inl (G_ne gaq goq (by decide)))) by11167_ca
          have b11217 : CP (fun k => fI H11207 mq k) (fun k => fI H11153 mq k) (0) (0) (0) := CP.congr (fun j => Wr.neI wH11207 (Or.inl (G_ne gmq goq (by decide)))) by11167_cm
          have b11218 : CP (fun k => fI H11207 lsq k) (fun k => fI H11153 lsq k) (16 * x11157.toNatClampNeg) (96) (x11156.toNatClampNeg) := CP.congr (fun j => Wr.neI wH11207 (Or.inl (G_ne glsq goq (by decide)))) by11167_cs
          have b11219 : CP (fun k => fI H11207 l1 k) (fun k => fI H11153 l1 k) (16 * x11157.toNatClampNeg) (96) (x11156.toNatClampNeg) := CP.congr (fun j => Wr.neI wH11207 (Or.inl (G_ne gl1 goq (by decide)))) by11167_cA
          have b11220 : CP (fun k => fI H11207 l2 k) (fun k => fI H11153 l2 k) (16 * x11157.toNatClampNeg) (96) (x11156.toNatClampNeg) := CP.congr (fun j => Wr.neI wH11207 (Or.inl (G_ne gl2 goq (by decide)))) by11167_cB
          have b11221 : CP (fun k => fI H11207 l3 k) (fun k => fI H11153 l3 k) (16 * x11157.toNatClampNeg) (96) (x11156.toNatClampNeg) := CP.congr (fun j => Wr.neI wH11207 (Or.inl (G_ne gl3 goq (by decide)))) by11167_cD
          have f11222 : ∀ j : Nat, bt j = (fI H11207 tq j).toInt := fun j => (fy11167_bt j).trans (congrArg Int32.toInt (Wr.neI wH11207 (Or.inl (G_ne gtq goq (by decide)))).symm)
          have f11223 : ∀ j : Nat, fI H11207 mq j = fI s.heap mq j := fun j => (Wr.neI wH11207 (Or.inl (G_ne gmq goq (by decide)))).trans (fy11167_mo j)
          have m11224 := ex11165.trans (Wr.neI wH11207 (Or.inl (G_ne ga0 goq (by decide)))).symm
          have m11225 := ex11166.trans (Wr.neI wH11207 (Or.inl (G_ne ga0 goq (by decide)))).symm
          have m11226 := cy11167_0.trans (Wr.neR wH11207 (Or.inl (G_ne ga0 goq (by decide)))).symm
          have m11227 := cy11167_1.trans (Wr.neR wH11207 (Or.inl (G_ne ga0 goq (by decide)))).symm
          have m11228 := cy11167_2.trans (Wr.neR wH11207 (Or.inl (G_ne ga0 goq (by decide)))).symm
          have m11229 := cy11167_3.trans (Wr.neR wH11207 (Or.inl (G_ne ga0 goq (by decide)))).symm
          have m11230 := cy11167_4.trans (Wr.neR wH11207 (Or.inl (G_ne ga0 goq (by decide)))).symm
          have m11231 := cy11167_5.trans (Wr.neR wH11207 (Or.inl (G_ne ga0 goq (by decide)))).symm
          have m11232 := cy11167_6.trans (Wr.neR wH11207 (Or.inl (G_ne ga0 goq (by decide)))).symm
          have m11233 := cy11167_7.trans (Wr.neR wH11207 (Or.inl (G_ne ga0 goq (by decide)))).symm
          have m11234 := cy11167_8.trans (Wr.neR wH11207 (Or.inl (G_ne ga0 goq (by decide)))).symm
          have m11235 := cy11167_9.trans (Wr.neR wH11207 (Or.inl (G_ne ga0 goq (by decide)))).symm
          have m11236 := cy11167_10.trans (Wr.neR wH11207 (Or.inl (G_ne ga0 goq (by decide)))).symm
          have m11238 := Wr.I wH11207
          have m11238 := m11238.symm
          clear by11167_c0 by11167_c1 by11167_c9 by11167_cA by11167_cB by11167_cD by11167_ca by11167_co by11167_cs cy11167_0 cy11167_1 cy11167_10 cy11167_2 cy11167_3 cy11167_4 cy11167_5 cy11167_6 cy11167_7 cy11167_8 cy11167_9 ex11165 ex11166 ex11206 fy11167_bt fy11167_mo gy11167_IM gy11167_TU gy11167_WD hTH11161 mfy11167
          clear tx11202 tx11203 tx11205 bx11206 ex11202 ex11203 ex11205
          refine lv_aload_n hx hb dX10_text_363 rfl (lv_at hl11163 0 rfl) ?_
          refine x_gr C hTH11207 (ci := 10) (k := 33) rfl inX10 (by decide) wF_X10_86 ga0 rg_112 rfl dX10_text_364 (fun q11239 eq11239 gq11239 => ?_)
          have uq11239 : aq = q11239 := (m11227).trans eq11239.symm
          subst uq11239
          clear eq11239
          refine lv_sipush (v := 500) hx hb dX10_text_367 (by decide) ?_
          refine lv_iload hx hb dX10_text_370 (lv_at hl11163 2 rfl) ?_
          refine lv_imul hx hb dX10_text_372 ?_
          refine lv_topi (fun x11240 ex11240 => ?_)
          have tx11240 := i_mul ex11240 (by rw [n_500]; omega)
          rw [n_500] at tx11240
          refine lv_iload hx hb dX10_text_373 (lv_at hl11163 3 rfl) ?_
          refine lv_iadd hx hb dX10_text_375 ?_
          refine lv_topi (fun x11241 ex11241 => ?_)
          have tx11241 := i_add ex11241 (by omega)
          refine lv_aload_n hx hb dX10_text_376 rfl (lv_at hl11163 0 rfl) ?_
          refine x_gr C hTH11207 (ci := 10) (k := 33) rfl inX10 (by decide) wF_X10_86 ga0 rg_112 rfl dX10_text_377 (fun q11242 eq11242 gq11242 => ?_)
          have uq11242 : aq = q11242 := (m11227).trans eq11242.symm
          subst uq11242
          clear eq11242
          refine lv_sipush (v := 3000) hx hb dX10_text_380 (by decide) ?_
          refine lv_iload hx hb dX10_text_383 (lv_at hl11163 3 rfl) ?_
          refine lv_iadd hx hb dX10_text_385 ?_
          refine lv_topi (fun x11243 ex11243 => ?_)
          have tx11243 := i_add ex11243 (by omega)
          refine x_ai C hTH11207 gaq rg_137 ⟨by omega, by show _ < ((3500 : Nat) : Int); omega⟩ dX10_text_386 (fun x11244 ex11244 bx11244 => ?_)
          refine x_iast C hTH11207 hSH11207 gaq rg_137 (by omega) (by show _ < ((3500 : Nat) : Int); omega) (i_rng x11244) (AE_in gaq (by decide)) dX10_text_387 (fun H11245 locsH11245 hTH11245 hSH11245 wH11245 => ?_)
          have mf11246 : MF K s.heap H11245 a0 [0, 18, 19, 20, 21, 22, 34, 35, 36, 38, 39, 40, 41, 42] := MF.arr wH11245 (G_ne ga0 gaq (by decide)) mf11208
          have g11247 : TU (avw K H11245 a0) (svw K H11245 a0) := TU.congr (fun k hk j => av_arr hTH11207 ga0 wH11245 gaq (by decide) (TU_ok 137 (by decide) k hk)) (fun k hk => sv_arr ga0 wH11245 gaq (by decide)) g11209
          have g11248 : WD (avw K H11245 a0) := WD.congr (fun k hk j => av_arr hTH11207 ga0 wH11245 gaq (by decide) (WD_ok 137 (by decide) k hk)) g11210
          have g11249 : IM (avw K H11245 a0) := IM.congr (fun k hk j => av_arr hTH11207 ga0 wH11245 gaq (by decide) (IM_ok 137 (by decide) k hk)) g11211
          have b11250 : CP (fun k => fI H11245 f9 k) (fun k => fI H11153 f9 k) (16 * x11157.toNatClampNeg) (96) (x11156.toNatClampNeg) := CP.congr (fun j => Wr.neI wH11245 (Or.inl (G_ne gf9 gaq (by decide)))) b11212
          have b11251 : CP (fun k => fI H11245 f0 k) (fun k => fI H11153 f0 k) (16 * x11157.toNatClampNeg) (96) (x11156.toNatClampNeg) := CP.congr (fun j => Wr.neI wH11245 (Or.inl (G_ne gf0 gaq (by decide)))) b11213
          have b11252 : CP (fun k => fI H11245 f1 k) (fun k => fI H11153 f1 k) (16 * x11157.toNatClampNeg) (96) (x11156.toNatClampNeg) := CP.congr (fun j => Wr.neI wH11245 (Or.inl (G_ne gf1 gaq (by decide)))) b11214
          have b11253 : CP (fun k => fI H11245 oq k) (fun k => fI H11153 oq k) (500 * x11157.toNatClampNeg) (3000) (x11164.toNatClampNeg + 1) := CP.congr (fun j => Wr.neI wH11245 (Or.inl (G_ne goq gaq (by decide)))) b11215
          have b11254 : CP (fun k => fI H11245 aq k) (fun k => fI H11153 aq k) (500 * x11157.toNatClampNeg) (3000) (x11164.toNatClampNeg + 1) := CP.step b11216 (i := x11241.toNatClampNeg) (k := x11243.toNatClampNeg) (x := x11244) (ix500 tx11240 tx11241 hrw.1 hlw.1) (le500 hrw hlw) (ixk n_3000 tx11243 hlw.1) ex11244 (Wr.I wH11245) (fun j hj => Wr.neI wH11245 (Or.inr hj))
          have b11255 : CP (fun k => fI H11245 mq k) (fun k => fI H11153 mq k) (0) (0) (0) := CP.congr (fun j => Wr.neI wH11245 (Or.inl (G_ne gmq gaq (by decide)))) b11217
          have b11256 : CP (fun k => fI H11245 lsq k) (fun k => fI H11153 lsq k) (16 * x11157.toNatClampNeg) (96) (x11156.toNatClampNeg) := CP.congr (fun j => Wr.neI wH11245 (Or.inl (G_ne glsq gaq (by decide)))) b11218
          have b11257 : CP (fun k => fI H11245 l1 k) (fun k => fI H11153 l1 k) (16 * x11157.toNatClampNeg) (96) (x11156.toNatClampNeg) := CP.congr (fun j => Wr.neI wH11245 (Or.inl (G_ne gl1 gaq (by decide)))) b11219
          have b11258 : CP (fun k => fI H11245 l2 k) (fun k => fI H11153 l2 k) (16 * x11157.toNatClampNeg) (96) (x11156.toNatClampNeg) := CP.congr (fun j => Wr.neI wH11245 (Or.inl (G_ne gl2 gaq (by decide)))) b11220
          have b11259 : CP (fun k => fI H11245 l3 k) (fun k => fI H11153 l3 k) (16 * x11157.toNatClampNeg) (96) (x11156.toNatClampNeg) := CP.congr (fun j => Wr.neI wH11245 (Or.inl (G_ne gl3 gaq (by decide)))) b11221
          have f11260 : ∀ j : Nat, bt j = (fI H11245 tq j).toInt := fun j => (f11222 j).trans (congrArg Int32.toInt (Wr.neI wH11245 (Or.inl (G_ne gtq gaq (by decide)))).symm)
          have f11261 : ∀ j : Nat, fI H11245 mq j = fI s.heap mq j := fun j => (Wr.neI wH11245 (Or.inl (G_ne gmq gaq (by decide)))).trans (f11223 j)
          have m11262 := m11224.trans (Wr.neI wH11245 (Or.inl (G_ne ga0 gaq (by decide)))).symm
          have m11263 := m11225.trans (Wr.neI wH11245 (Or.inl (G_ne ga0 gaq (by decide)))).symm
          have m11264 := m11226.trans (Wr.neR wH11245 (Or.inl (G_ne ga0 gaq (by decide)))).symm
          have m11265 := m11227.trans (Wr.neR wH11245 (Or.inl (G_ne ga0 gaq (by decide)))).symm
          have m11266 := m11228.trans (Wr.neR wH11245 (Or.inl (G_ne ga0 gaq (by decide)))).symm
          have m11267 := m11229.trans (Wr.neR wH11245 (Or.inl (G_ne ga0 gaq (by decide)))).symm
          have m11268 := m11230.trans (Wr.neR wH11245 (Or.inl (G_ne ga0 gaq (by decide)))).symm
          have m11269 := m11231.trans (Wr.neR wH11245 (Or.inl (G_ne ga0 gaq (by decide)))).symm
          have m11270 := m11232.trans (Wr.neR wH11245 (Or.inl (G_ne ga0 gaq (by decide)))).symm
          have m11271 := m11233.trans (Wr.neR wH11245 (Or.inl (G_ne ga0 gaq (by decide)))).symm
          have m11272 := m11234.trans (Wr.neR wH11245 (Or.inl (G_ne ga0 gaq (by decide)))).symm
          have m11273 := m11235.trans (Wr.neR wH11245 (Or.inl (G_ne ga0 gaq (by decide)))).symm
          have m11274 := m11236.trans (Wr.neR wH11245 (Or.inl (G_ne ga0 gaq (by decide)))).symm
          have m11275 := m11238.trans (Wr.neI wH11245 (Or.inl (G_ne goq gaq (by decide)))).symm
          have m11277 := Wr.I wH11245
          have m11277 := m11277.symm
          clear b11212 b11213 b11214 b11215 b11216 b11217 b11218 b11219 b11220 b11221 ex11244 f11222 f11223 g11209 g11210 g11211 hTH11207 m11224 m11225 m11226 m11227 m11228 m11229 m11230 m11231 m11232 m11233 m11234 m11235 m11236 m11238 mf11208
          clear tx11240 tx11241 tx11243 bx11244 ex11240 ex11241 ex11243
          obtain ⟨x11278, ex11278⟩ : ∃ y : Int32, y = x11164 + 1 := ⟨_, rfl⟩
          have tx11278 := i_add ex11278 (by omega)
          refine lv_iinc (v := x11278) (lv' := [(6, .int x11278), (0, .ref a0), (4, .int x11156), (5, .int x11157)]) hx hb dX10_text_388 hl11163 (k := 3) rfl (by rw [ex11278]; rfl) (by decide) rfl (fun ls11279 hl11280 => ?_)
          refine lv_goto (tgt := 329) hx hb dX10_text_391 (by decide) ?_
          have cl_x11156 := i_cl (x := x11156) bx11156.1
          have cl_x11157 := i_cl (x := x11157) bx11157.1
          have cl_x11164 := i_cl (x := x11164) bx11164.1
          have cl_x11278 := i_cl (x := x11278) (by omega)
          exact ih329 ls11279 H11245 locsH11245 (x11278) (x11165) (x11166) (lv_sub hl11280 [1, 2, 3, 0] rfl) hTH11245 hSH11245 ⟨by have := i_rng x11278; omega, by have := i_rng x11278; omega⟩ bx11165 bx11166 m11262 m11263 m11264 m11265 m11266 m11267 m11268 m11269 m11270 m11271 m11272 m11273 m11274 (CP.cast b11250 (by omega) (by omega) (by omega)) (CP.cast b11251 (by omega) (by omega) (by omega)) (CP.cast b11252 (by omega) (by omega) (by omega)) (CP.cast b11253 (by omega) (by omega) (by omega)) (CP.cast b11254 (by omega) (by omega) (by omega)) (CP.cast b11255 (by omega) (by omega) (by omega)) (CP.cast b11256 (by omega) (by omega) (by omega)) (CP.cast b11257 (by omega) (by omega) (by omega)) (CP.cast b11258 (by omega) (by omega) (by omega)) (CP.cast b11259 (by omega) (by omega) (by omega)) mf11246 g11247 g11248 g11249 f11260 f11261 (by omega) (by omega)
    have J152 : ∀ (nf : Nat) (ls11282 : Array Slot) (H11281 : Heap) (locsH11281 : List Loc) (x11284 : Int32) (x11285 : Int32) (x11286 : Int32), lv_has ls11282 7 [(0, .ref a0), (4, .int x11156), (5, .int x11157), (6, .int x11284)] → TY K G H11281 → va_S (AE G [112, 136, 137, 138, 129, 130, 131, 132, 133, 134, 135, 128] s.heap.size) s.heap H11281 locsH11281 → (0 ≤ x11284.toInt ∧ x11284.toInt ≤ 16) → (0 ≤ x11285.toInt ∧ x11285.toInt ≤ 500) → (0 ≤ x11286.toInt ∧ x11286.toInt ≤ 0) → (x11285 = fI H11281 a0 (K.1.2 10 35)) → (x11286 = fI H11281 a0 (K.1.2 10 18)) → (EQN oq (fR H11281 a0 (K.1.2 10 32))) → (EQN aq (fR H11281 a0 (K.1.2 10 33))) → (EQN f9 (fR H11281 a0 (K.1.2 10 29))) → (EQN f0 (fR H11281 a0 (K.1.2 10 30))) → (EQN f1 (fR H11281 a0 (K.1.2 10 31))) → (EQN mq (fR H11281 a0 (K.1.2 10 24))) → (EQN tq (fR H11281 a0 (K.1.2 10 17))) → (EQN l1 (fR H11281 a0 (K.1.2 10 26))) → (EQN l2 (fR H11281 a0 (K.1.2 10 27))) → (EQN l3 (fR H11281 a0 (K.1.2 10 28))) → (EQN lsq (fR H11281 a0 (K.1.2 10 25))) → (CP (fun k => fI H11281 f9 k) (fun k => fI H11153 f9 k) (16 * x11157.toNatClampNeg) (96) (x11284.toNatClampNeg)) → (CP (fun k => fI H11281 f0 k) (fun k => fI H11153 f0 k) (16 * x11157.toNatClampNeg) (96) (x11284.toNatClampNeg)) → (CP (fun k => fI H11281 f1 k) (fun k => fI H11153 f1 k) (16 * x11157.toNatClampNeg) (96) (x11284.toNatClampNeg)) → (CP (fun k => fI H11281 oq k) (fun k => fI H11153 oq k) (500 * x11157.toNatClampNeg) (3000) (0)) → (CP (fun k => fI H11281 aq k) (fun k => fI H11153 aq k) (500 * x11157.toNatClampNeg) (3000) (0)) → (CP (fun k => fI H11281 mq k) (fun k => fI H11153 mq k) (0) (0) (0)) → (CP (fun k => fI H11281 lsq k) (fun k => fI H11153 lsq k) (16 * x11157.toNatClampNeg) (96) (x11284.toNatClampNeg)) → (CP (fun k => fI H11281 l1 k) (fun k => fI H11153 l1 k) (16 * x11157.toNatClampNeg) (96) (x11284.toNatClampNeg)) → (CP (fun k => fI H11281 l2 k) (fun k => fI H11153 l2 k) (16 * x11157.toNatClampNeg) (96) (x11284.toNatClampNeg)) → (CP (fun k => fI H11281 l3 k) (fun k => fI H11153 l3 k) (16 * x11157.toNatClampNeg) (96) (x11284.toNatClampNeg)) → (MF K s.heap H11281 a0 [0, 18, 19, 20, 21, 22, 34, 35, 36, 38, 39, 40, 41, 42]) → (TU (avw K H11281 a0) (svw K H11281 a0)) → (WD (avw K H11281 a0)) → (IM (avw K H11281 a0)) → (∀ j : Nat, bt j = (fI H11281 tq j).toInt) → (∀ j : Nat, fI H11281 mq j = fI s.heap mq j) → (16 - x11284.toInt < (nf : Int)) → (x11285.toInt = x11158.toInt ∧ x11286.toInt = 0 ∧ x11284.toInt ≤ x11156.toInt) → W p l e ({ frames := 10, cells := 0, slots := 0, locals := 215 } : Room) s m (([.ref a0, .int x1, .int x2] : List Value).toArray) below meth c H11281 locsH11281 0 0 Q (F0 m 152 ls11282 []) := by
      intro nf
      induction nf with
      | zero =>
        intro ls11282 H11281 locsH11281 x11284 x11285 x11286 hl11283 hTH11281 hSH11281 bx11284 bx11285 bx11286 ex11285 ex11286 cy11287_0 cy11287_1 cy11287_2 cy11287_3 cy11287_4 cy11287_5 cy11287_6 cy11287_7 cy11287_8 cy11287_9 cy11287_10 by11287_c9 by11287_c0 by11287_c1 by11287_co by11287_ca by11287_cm by11287_cs by11287_cA by11287_cB by11287_cD mfy11287 gy11287_TU gy11287_WD gy11287_IM fy11287_bt fy11287_mo hm152 iv152
        exfalso
        omega
      | succ nf ih152 =>
        intro ls11282 H11281 locsH11281 x11284 x11285 x11286 hl11283 hTH11281 hSH11281 bx11284 bx11285 bx11286 ex11285 ex11286 cy11287_0 cy11287_1 cy11287_2 cy11287_3 cy11287_4 cy11287_5 cy11287_6 cy11287_7 cy11287_8 cy11287_9 cy11287_10 by11287_c9 by11287_c0 by11287_c1 by11287_co by11287_ca by11287_cm by11287_cs by11287_cA by11287_cB by11287_cD mfy11287 gy11287_TU gy11287_WD gy11287_IM fy11287_bt fy11287_mo hm152 iv152
        refine lv_iload hx hb dX10_text_152 (lv_at hl11283 3 rfl) ?_
        refine lv_iload hx hb dX10_text_154 (lv_at hl11283 1 rfl) ?_
        refine lv_icmp_ge (tgt := 326) hx hb dX10_text_156 (by decide) (fun c11288 => ?_) (fun c11288 => ?_)
        · have k11289 := i_le c11288
          refine lv_iconst (v := 0) hx hb dX10_text_326 (by decide) ?_
          refine lv_istore (lv' := [(6, .int 0), (0, .ref a0), (4, .int x11156), (5, .int x11157)]) hx hb dX10_text_327 hl11283 (by decide) rfl (fun ls11290 hl11291 => ?_)
          have cl00 : (0 : Int32).toNatClampNeg = 0 := rfl
          have cl_x11156 := i_cl (x := x11156) bx11156.1
          have cl_x11157 := i_cl (x := x11157) bx11157.1
          have cl_x11284 := i_cl (x := x11284) bx11284.1
          have cl_0 := i_cl (x := (0 : Int32)) (by omega)
          have cl_0 := i_cl (x := (0 : Int32)) (by omega)
          exact J329 ((500 - (0 : Int32).toInt).toNat + 1) ls11290 H11281 locsH11281 (0) (x11285) (x11286) (lv_sub hl11291 [1, 2, 3, 0] rfl) hTH11281 hSH11281 (by decide) bx11285 bx11286 ex11285 ex11286 cy11287_0 cy11287_1 cy11287_2 cy11287_3 cy11287_4 cy11287_5 cy11287_6 cy11287_7 cy11287_8 cy11287_9 cy11287_10 (CP.cast by11287_c9 (by omega) (by omega) (by omega)) (CP.cast by11287_c0 (by omega) (by omega) (by omega)) (CP.cast by11287_c1 (by omega) (by omega) (by omega)) (CP.cast by11287_co (by omega) (by omega) (by omega)) (CP.cast by11287_ca (by omega) (by omega) (by omega)) (CP.cast by11287_cm (by omega) (by omega) (by omega)) (CP.cast by11287_cs (by omega) (by omega) (by omega)) (CP.cast by11287_cA (by omega) (by omega) (by omega)) (CP.cast by11287_cB (by omega) (by omega) (by omega)) (CP.cast by11287_cD (by omega) (by omega) (by omega)) mfy11287 gy11287_TU gy11287_WD gy11287_IM fy11287_bt fy11287_mo (by omega) (by omega)
        · have k11289 := i_nle c11288
          have hrw : 0 ≤ x11157.toInt ∧ x11157.toInt ≤ 5 := ⟨by omega, by omega⟩
          have hlw : 0 ≤ x11284.toInt ∧ x11284.toInt ≤ 15 := ⟨by omega, by omega⟩
          refine lv_aload_n hx hb dX10_text_159 rfl (lv_at hl11283 0 rfl) ?_
          refine x_gr C hTH11281 (ci := 10) (k := 25) rfl inX10 (by decide) wF_X10_62 ga0 rg_112 rfl dX10_text_160 (fun q11292 eq11292 gq11292 => ?_)
          have uq11292 : lsq = q11292 := (cy11287_10).trans eq11292.symm
          subst uq11292
          clear eq11292
          refine lv_bipush (v := 16) hx hb dX10_text_163 (by decide) ?_
          refine lv_iload hx hb dX10_text_165 (lv_at hl11283 2 rfl) ?_
          refine lv_imul hx hb dX10_text_167 ?_
          refine lv_topi (fun x11293 ex11293 => ?_)
          have tx11293 := i_mul ex11293 (by rw [n_16]; omega)
          rw [n_16] at tx11293
          refine lv_iload hx hb dX10_text_168 (lv_at hl11283 3 rfl) ?_
          refine lv_iadd hx hb dX10_text_170 ?_
          refine lv_topi (fun x11294 ex11294 => ?_)
          have tx11294 := i_add ex11294 (by omega)
          refine lv_aload_n hx hb dX10_text_171 rfl (lv_at hl11283 0 rfl) ?_
          refine x_gr C hTH11281 (ci := 10) (k := 25) rfl inX10 (by decide) wF_X10_62 ga0 rg_112 rfl dX10_text_172 (fun q11295 eq11295 gq11295 => ?_)
          have uq11295 : lsq = q11295 := (cy11287_10).trans eq11295.symm
          subst uq11295
          clear eq11295
          refine lv_bipush (v := 96) hx hb dX10_text_175 (by decide) ?_
          refine lv_iload hx hb dX10_text_177 (lv_at hl11283 3 rfl) ?_
          refine lv_iadd hx hb dX10_text_179 ?_
          refine lv_topi (fun x11296 ex11296 => ?_)
          have tx11296 := i_add ex11296 (by omega)
          refine x_ai C hTH11281 glsq rg_129 ⟨by omega, by show _ < ((112 : Nat) : Int); omega⟩ dX10_text_180 (fun x11297 ex11297 bx11297 => ?_)
          refine x_iast C hTH11281 hSH11281 glsq rg_129 (by omega) (by show _ < ((112 : Nat) : Int); omega) (i_rng x11297) (AE_in glsq (by decide)) dX10_text_181 (fun H11298 locsH11298 hTH11298 hSH11298 wH11298 => ?_)
          have mf11299 : MF K s.heap H11298 a0 [0, 18, 19, 20, 21, 22, 34, 35, 36, 38, 39, 40, 41, 42] := MF.arr wH11298 (G_ne ga0 glsq (by decide)) mfy11287
          have g11300 : TU (avw K H11298 a0) (svw K H11298 a0) := TU.congr (fun k hk j => av_arr hTH11281 ga0 wH11298 glsq (by decide) (TU_ok 129 (by decide) k hk)) (fun k hk => sv_arr ga0 wH11298 glsq (by decide)) gy11287_TU
          have g11301 : WD (avw K H11298 a0) := WD.congr (fun k hk j => av_arr hTH11281 ga0 wH11298 glsq (by decide) (WD_ok 129 (by decide) k hk)) gy11287_WD
          have g11302 : IM (avw K H11298 a0) := IM.congr (fun k hk j => av_arr hTH11281 ga0 wH11298 glsq (by decide) (IM_ok 129 (by decide) k hk)) gy11287_IM
          have b11303 : CP (fun k => fI H11298 f9 k) (fun k => fI H11153 f9 k) (16 * x11157.toNatClampNeg) (96) (x11284.toNatClampNeg) := CP.congr (fun j => Wr.neI wH11298 (Or.inl (G_ne gf9 glsq (by decide)))) by11287_c9
          have b11304 : CP (fun k => fI H11298 f0 k) (fun k => fI H11153 f0 k) (16 * x11157.toNatClampNeg) (96) (x11284.toNatClampNeg) := CP.congr (fun j => Wr.neI wH11298 (Or.inl (G_ne gf0 glsq (by decide)))) by11287_c0
          have b11305 : CP (fun k => fI H11298 f1 k) (fun k => fI H11153 f1 k) (16 * x11157.toNatClampNeg) (96) (x11284.toNatClampNeg) := CP.congr (fun j => Wr.neI wH11298 (Or.inl (G_ne gf1 glsq (by decide)))) by11287_c1
          have b11306 : CP (fun k => fI H11298 oq k) (fun k => fI H11153 oq k) (500 * x11157.toNatClampNeg) (3000) (0) := CP.congr (fun j => Wr.neI wH11298 (Or.inl (G_ne goq glsq (by decide)))) by11287_co
          have b11307 : CP (fun k => fI H11298 aq k) (fun k => fI H11153 aq k) (500 * x11157.toNatClampNeg) (3000) (0) := CP.congr (fun j => Wr.neI wH11298 (Or.inl (G_ne gaq glsq (by decide)))) by11287_ca
          have b11308 : CP (fun k => fI H11298 mq k) (fun k => fI H11153 mq k) (0) (0) (0) := CP.congr (fun j => Wr.neI wH11298 (Or.inl (G_ne gmq glsq (by decide)))) by11287_cm
          have b11309 : CP (fun k => fI H11298 lsq k) (fun k => fI H11153 lsq k) (16 * x11157.toNatClampNeg) (96) (x11284.toNatClampNeg + 1) := CP.step by11287_cs (i := x11294.toNatClampNeg) (k := x11296.toNatClampNeg) (x := x11297) (ix16 tx11293 tx11294 hrw.1 hlw.1) (le16 hrw hlw) (ixk n_96 tx11296 hlw.1) ex11297 (Wr.I wH11298) (fun j hj => Wr.neI wH11298 (Or.inr hj))
          have b11310 : CP (fun k => fI H11298 l1 k) (fun k => fI H11153 l1 k) (16 * x11157.toNatClampNeg) (96) (x11284.toNatClampNeg) := CP.congr (fun j => Wr.neI wH11298 (Or.inl (G_ne gl1 glsq (by decide)))) by11287_cA
          have b11311 : CP (fun k => fI H11298 l2 k) (fun k => fI H11153 l2 k) (16 * x11157.toNatClampNeg) (96) (x11284.toNatClampNeg) := CP.congr (fun j => Wr.neI wH11298 (Or.inl (G_ne gl2 glsq (by decide)))) by11287_cB
          have b11312 : CP (fun k => fI H11298 l3 k) (fun k => fI H11153 l3 k) (16 * x11157.toNatClampNeg) (96) (x11284.toNatClampNeg) := CP.congr (fun j => Wr.neI wH11298 (Or.inl (G_ne gl3 glsq (by decide)))) by11287_cD
          have f11313 : ∀ j : Nat, bt j = (fI H11298 tq j).toInt := fun j => (fy11287_bt j).trans (congrArg Int32.toInt (Wr.neI wH11298 (Or.inl (G_ne gtq glsq (by decide)))).symm)
          have f11314 : ∀ j : Nat, fI H11298 mq j = fI s.heap mq j := fun j => (Wr.neI wH11298 (Or.inl (G_ne gmq glsq (by decide)))).trans (fy11287_mo j)
          have m11315 := ex11285.trans (Wr.neI wH11298 (Or.inl (G_ne ga0 glsq (by decide)))).symm
          have m11316 := ex11286.trans (Wr.neI wH11298 (Or.inl (G_ne ga0 glsq (by decide)))).symm
          have m11317 := cy11287_0.trans (Wr.neR wH11298 (Or.inl (G_ne ga0 glsq (by decide)))).symm
          have m11318 := cy11287_1.trans (Wr.neR wH11298 (Or.inl (G_ne ga0 glsq (by decide)))).symm
          have m11319 := cy11287_2.trans (Wr.neR wH11298 (Or.inl (G_ne ga0 glsq (by decide)))).symm
          have m11320 := cy11287_3.trans (Wr.neR wH11298 (Or.inl (G_ne ga0 glsq (by decide)))).symm
          have m11321 := cy11287_4.trans (Wr.neR wH11298 (Or.inl (G_ne ga0 glsq (by decide)))).symm
          have m11322 := cy11287_5.trans (Wr.neR wH11298 (Or.inl (G_ne ga0 glsq (by decide)))).symm
          have m11323 := cy11287_6.trans (Wr.neR wH11298 (Or.inl (G_ne ga0 glsq (by decide)))).symm
          have m11324 := cy11287_7.trans (Wr.neR wH11298 (Or.inl (G_ne ga0 glsq (by decide)))).symm
          have m11325 := cy11287_8.trans (Wr.neR wH11298 (Or.inl (G_ne ga0 glsq (by decide)))).symm
          have m11326 := cy11287_9.trans (Wr.neR wH11298 (Or.inl (G_ne ga0 glsq (by decide)))).symm
          have m11327 := cy11287_10.trans (Wr.neR wH11298 (Or.inl (G_ne ga0 glsq (by decide)))).symm
          have m11329 := Wr.I wH11298
          have m11329 := m11329.symm
          clear by11287_c0 by11287_c1 by11287_c9 by11287_cA by11287_cB by11287_cD by11287_ca by11287_cm by11287_co by11287_cs cy11287_0 cy11287_1 cy11287_10 cy11287_2 cy11287_3 cy11287_4 cy11287_5 cy11287_6 cy11287_7 cy11287_8 cy11287_9 ex11285 ex11286 ex11297 fy11287_bt fy11287_mo gy11287_IM gy11287_TU gy11287_WD hTH11281 mfy11287
          clear tx11293 tx11294 tx11296 bx11297 ex11293 ex11294 ex11296
          refine lv_aload_n hx hb dX10_text_182 rfl (lv_at hl11283 0 rfl) ?_
          refine x_gr C hTH11298 (ci := 10) (k := 26) rfl inX10 (by decide) wF_X10_65 ga0 rg_112 rfl dX10_text_183 (fun q11330 eq11330 gq11330 => ?_)
          have uq11330 : l1 = q11330 := (m11324).trans eq11330.symm
          subst uq11330
          clear eq11330
          refine lv_bipush (v := 16) hx hb dX10_text_186 (by decide) ?_
          refine lv_iload hx hb dX10_text_188 (lv_at hl11283 2 rfl) ?_
          refine lv_imul hx hb dX10_text_190 ?_
          refine lv_topi (fun x11331 ex11331 => ?_)
          have tx11331 := i_mul ex11331 (by rw [n_16]; omega)
          rw [n_16] at tx11331
          refine lv_iload hx hb dX10_text_191 (lv_at hl11283 3 rfl) ?_
          refine lv_iadd hx hb dX10_text_193 ?_
          refine lv_topi (fun x11332 ex11332 => ?_)
          have tx11332 := i_add ex11332 (by omega)
          refine lv_aload_n hx hb dX10_text_194 rfl (lv_at hl11283 0 rfl) ?_
          refine x_gr C hTH11298 (ci := 10) (k := 26) rfl inX10 (by decide) wF_X10_65 ga0 rg_112 rfl dX10_text_195 (fun q11333 eq11333 gq11333 => ?_)
          have uq11333 : l1 = q11333 := (m11324).trans eq11333.symm
          subst uq11333
          clear eq11333
          refine lv_bipush (v := 96) hx hb dX10_text_198 (by decide) ?_
          refine lv_iload hx hb dX10_text_200 (lv_at hl11283 3 rfl) ?_
          refine lv_iadd hx hb dX10_text_202 ?_
          refine lv_topi (fun x11334 ex11334 => ?_)
          have tx11334 := i_add ex11334 (by omega)
          refine x_ai C hTH11298 gl1 rg_130 ⟨by omega, by show _ < ((112 : Nat) : Int); omega⟩ dX10_text_203 (fun x11335 ex11335 bx11335 => ?_)
          refine x_iast C hTH11298 hSH11298 gl1 rg_130 (by omega) (by show _ < ((112 : Nat) : Int); omega) (i_rng x11335) (AE_in gl1 (by decide)) dX10_text_204 (fun H11336 locsH11336 hTH11336 hSH11336 wH11336 => ?_)
          have mf11337 : MF K s.heap H11336 a0 [0, 18, 19, 20, 21, 22, 34, 35, 36, 38, 39, 40, 41, 42] := MF.arr wH11336 (G_ne ga0 gl1 (by decide)) mf11299
          have g11338 : TU (avw K H11336 a0) (svw K H11336 a0) := TU.congr (fun k hk j => av_arr hTH11298 ga0 wH11336 gl1 (by decide) (TU_ok 130 (by decide) k hk)) (fun k hk => sv_arr ga0 wH11336 gl1 (by decide)) g11300
          have g11339 : WD (avw K H11336 a0) := WD.congr (fun k hk j => av_arr hTH11298 ga0 wH11336 gl1 (by decide) (WD_ok 130 (by decide) k hk)) g11301
          have g11340 : IM (avw K H11336 a0) := IM.congr (fun k hk j => av_arr hTH11298 ga0 wH11336 gl1 (by decide) (IM_ok 130 (by decide) k hk)) g11302
          have b11341 : CP (fun k => fI H11336 f9 k) (fun k => fI H11153 f9 k) (16 * x11157.toNatClampNeg) (96) (x11284.toNatClampNeg) := CP.congr (fun j => Wr.neI wH11336 (Or.inl (G_ne gf9 gl1 (by decide)))) b11303
          have b11342 : CP (fun k => fI H11336 f0 k) (fun k => fI H11153 f0 k) (16 * x11157.toNatClampNeg) (96) (x11284.toNatClampNeg) := CP.congr (fun j => Wr.neI wH11336 (Or.inl (G_ne gf0 gl1 (by decide)))) b11304
          have b11343 : CP (fun k => fI H11336 f1 k) (fun k => fI H11153 f1 k) (16 * x11157.toNatClampNeg) (96) (x11284.toNatClampNeg) := CP.congr (fun j => Wr.neI wH11336 (Or.inl (G_ne gf1 gl1 (by decide)))) b11305
          have b11344 : CP (fun k => fI H11336 oq k) (fun k => fI H11153 oq k) (500 * x11157.toNatClampNeg) (3000) (0) := CP.congr (fun j => Wr.neI wH11336 (Or.inl (G_ne goq gl1 (by decide)))) b11306
          have b11345 : CP (fun k => fI H11336 aq k) (fun k => fI H11153 aq k) (500 * x11157.toNatClampNeg) (3000) (0) := CP.congr (fun j => Wr.neI wH11336 (Or.inl (G_ne gaq gl1 (by decide)))) b11307
          have b11346 : CP (fun k => fI H11336 mq k) (fun k => fI H11153 mq k) (0) (0) (0) := CP.congr (fun j => Wr.neI wH11336 (Or.inl (G_ne gmq gl1 (by decide)))) b11308
          have b11347 : CP (fun k => fI H11336 lsq k) (fun k => fI H11153 lsq k) (16 * x11157.toNatClampNeg) (96) (x11284.toNatClampNeg + 1) := CP.congr (fun j => Wr.neI wH11336 (Or.inl (G_ne glsq gl1 (by decide)))) b11309
          have b11348 : CP (fun k => fI H11336 l1 k) (fun k => fI H11153 l1 k) (16 * x11157.toNatClampNeg) (96) (x11284.toNatClampNeg + 1) := CP.step b11310 (i := x11332.toNatClampNeg) (k := x11334.toNatClampNeg) (x := x11335) (ix16 tx11331 tx11332 hrw.1 hlw.1) (le16 hrw hlw) (ixk n_96 tx11334 hlw.1) ex11335 (Wr.I wH11336) (fun j hj => Wr.neI wH11336 (Or.inr hj))
          have b11349 : CP (fun k => fI H11336 l2 k) (fun k => fI H11153 l2 k) (16 * x11157.toNatClampNeg) (96) (x11284.toNatClampNeg) := CP.congr (fun j => Wr.neI wH11336 (Or.inl (G_ne gl2 gl1 (by decide)))) b11311
          have b11350 : CP (fun k => fI H11336 l3 k) (fun k => fI H11153 l3 k) (16 * x11157.toNatClampNeg) (96) (x11284.toNatClampNeg) := CP.congr (fun j => Wr.neI wH11336 (Or.inl (G_ne gl3 gl1 (by decide)))) b11312
          have f11351 : ∀ j : Nat, bt j = (fI H11336 tq j).toInt := fun j => (f11313 j).trans (congrArg Int32.toInt (Wr.neI wH11336 (Or.inl (G_ne gtq gl1 (by decide)))).symm)
          have f11352 : ∀ j : Nat, fI H11336 mq j = fI s.heap mq j := fun j => (Wr.neI wH11336 (Or.inl (G_ne gmq gl1 (by decide)))).trans (f11314 j)
          have m11353 := m11315.trans (Wr.neI wH11336 (Or.inl (G_ne ga0 gl1 (by decide)))).symm
          have m11354 := m11316.trans (Wr.neI wH11336 (Or.inl (G_ne ga0 gl1 (by decide)))).symm
          have m11355 := m11317.trans (Wr.neR wH11336 (Or.inl (G_ne ga0 gl1 (by decide)))).symm
          have m11356 := m11318.trans (Wr.neR wH11336 (Or.inl (G_ne ga0 gl1 (by decide)))).symm
          have m11357 := m11319.trans (Wr.neR wH11336 (Or.inl (G_ne ga0 gl1 (by decide)))).symm
          have m11358 := m11320.trans (Wr.neR wH11336 (Or.inl (G_ne ga0 gl1 (by decide)))).symm
          have m11359 := m11321.trans (Wr.neR wH11336 (Or.inl (G_ne ga0 gl1 (by decide)))).symm
          have m11360 := m11322.trans (Wr.neR wH11336 (Or.inl (G_ne ga0 gl1 (by decide)))).symm
          have m11361 := m11323.trans (Wr.neR wH11336 (Or.inl (G_ne ga0 gl1 (by decide)))).symm
          have m11362 := m11324.trans (Wr.neR wH11336 (Or.inl (G_ne ga0 gl1 (by decide)))).symm
          have m11363 := m11325.trans (Wr.neR wH11336 (Or.inl (G_ne ga0 gl1 (by decide)))).symm
          have m11364 := m11326.trans (Wr.neR wH11336 (Or.inl (G_ne ga0 gl1 (by decide)))).symm
          have m11365 := m11327.trans (Wr.neR wH11336 (Or.inl (G_ne ga0 gl1 (by decide)))).symm
          have m11366 := m11329.trans (Wr.neI wH11336 (Or.inl (G_ne glsq gl1 (by decide)))).symm
          have m11368 := Wr.I wH11336
          have m11368 := m11368.symm
          clear b11303 b11304 b11305 b11306 b11307 b11308 b11309 b11310 b11311 b11312 ex11335 f11313 f11314 g11300 g11301 g11302 hTH11298 m11315 m11316 m11317 m11318 m11319 m11320 m11321 m11322 m11323 m11324 m11325 m11326 m11327 m11329 mf11299
          clear tx11331 tx11332 tx11334 bx11335 ex11331 ex11332 ex11334
          refine lv_aload_n hx hb dX10_text_205 rfl (lv_at hl11283 0 rfl) ?_
          refine x_gr C hTH11336 (ci := 10) (k := 27) rfl inX10 (by decide) wF_X10_68 ga0 rg_112 rfl dX10_text_206 (fun q11369 eq11369 gq11369 => ?_)
          have uq11369 : l2 = q11369 := (m11363).trans eq11369.symm
          subst uq11369
          clear eq11369
          refine lv_bipush (v := 16) hx hb dX10_text_209 (by decide) ?_
          refine lv_iload hx hb dX10_text_211 (lv_at hl11283 2 rfl) ?_
          refine lv_imul hx hb dX10_text_213 ?_
          refine lv_topi (fun x11370 ex11370 => ?_)
          have tx11370 := i_mul ex11370 (by rw [n_16]; omega)
          rw [n_16] at tx11370
          refine lv_iload hx hb dX10_text_214 (lv_at hl11283 3 rfl) ?_
          refine lv_iadd hx hb dX10_text_216 ?_
          refine lv_topi (fun x11371 ex11371 => ?_)
          have tx11371 := i_add ex11371 (by omega)
          refine lv_aload_n hx hb dX10_text_217 rfl (lv_at hl11283 0 rfl) ?_
          refine x_gr C hTH11336 (ci := 10) (k := 27) rfl inX10 (by decide) wF_X10_68 ga0 rg_112 rfl dX10_text_218 (fun q11372 eq11372 gq11372 => ?_)
          have uq11372 : l2 = q11372 := (m11363).trans eq11372.symm
          subst uq11372
          clear eq11372
          refine lv_bipush (v := 96) hx hb dX10_text_221 (by decide) ?_
          refine lv_iload hx hb dX10_text_223 (lv_at hl11283 3 rfl) ?_
          refine lv_iadd hx hb dX10_text_225 ?_
          refine lv_topi (fun x11373 ex11373 => ?_)
          have tx11373 := i_add ex11373 (by omega)
          refine x_ai C hTH11336 gl2 rg_131 ⟨by omega, by show _ < ((112 : Nat) : Int); omega⟩ dX10_text_226 (fun x11374 ex11374 bx11374 => ?_)
          refine x_iast C hTH11336 hSH11336 gl2 rg_131 (by omega) (by show _ < ((112 : Nat) : Int); omega) ⟨Int.le_trans (by decide) bx11374.1, Int.le_trans bx11374.2 (by decide)⟩ (AE_in gl2 (by decide)) dX10_text_227 (fun H11375 locsH11375 hTH11375 hSH11375 wH11375 => ?_)
          have mf11376 : MF K s.heap H11375 a0 [0, 18, 19, 20, 21, 22, 34, 35, 36, 38, 39, 40, 41, 42] := MF.arr wH11375 (G_ne ga0 gl2 (by decide)) mf11337
          have g11377 : TU (avw K H11375 a0) (svw K H11375 a0) := TU.congr (fun k hk j => av_arr hTH11336 ga0 wH11375 gl2 (by decide) (TU_ok 131 (by decide) k hk)) (fun k hk => sv_arr ga0 wH11375 gl2 (by decide)) g11338
          have g11378 : WD (avw K H11375 a0) := WD.congr (fun k hk j => av_arr hTH11336 ga0 wH11375 gl2 (by decide) (WD_ok 131 (by decide) k hk)) g11339
          have g11379 : IM (avw K H11375 a0) := IM.congr (fun k hk j => av_arr hTH11336 ga0 wH11375 gl2 (by decide) (IM_ok 131 (by decide) k hk)) g11340
          have b11380 : CP (fun k => fI H11375 f9 k) (fun k => fI H11153 f9 k) (16 * x11157.toNatClampNeg) (96) (x11284.toNatClampNeg) := CP.congr (fun j => Wr.neI wH11375 (Or.inl (G_ne gf9 gl2 (by decide)))) b11341
          have b11381 : CP (fun k => fI H11375 f0 k) (fun k => fI H11153 f0 k) (16 * x11157.toNatClampNeg) (96) (x11284.toNatClampNeg) := CP.congr (fun j => Wr.neI wH11375 (Or.inl (G_ne gf0 gl2 (by decide)))) b11342
          have b11382 : CP (fun k => fI H11375 f1 k) (fun k => fI H11153 f1 k) (16 * x11157.toNatClampNeg) (96) (x11284.toNatClampNeg) := CP.congr (fun j => Wr.neI wH11375 (Or.inl (G_ne gf1 gl2 (by decide)))) b11343
          have b11383 : CP (fun k => fI H11375 oq k) (fun k => fI H11153 oq k) (500 * x11157.toNatClampNeg) (3000) (0) := CP.congr (fun j => Wr.neI wH11375 (Or.inl (G_ne goq gl2 (by decide)))) b11344
          have b11384 : CP (fun k => fI H11375 aq k) (fun k => fI H11153 aq k) (500 * x11157.toNatClampNeg) (3000) (0) := CP.congr (fun j => Wr.neI wH11375 (Or.inl (G_ne gaq gl2 (by decide)))) b11345
          have b11385 : CP (fun k => fI H11375 mq k) (fun k => fI H11153 mq k) (0) (0) (0) := CP.congr (fun j => Wr.neI wH11375 (Or.inl (G_ne gmq gl2 (by decide)))) b11346
          have b11386 : CP (fun k => fI H11375 lsq k) (fun k => fI H11153 lsq k) (16 * x11157.toNatClampNeg) (96) (x11284.toNatClampNeg + 1) := CP.congr (fun j => Wr.neI wH11375 (Or.inl (G_ne glsq gl2 (by decide)))) b11347
          have b11387 : CP (fun k => fI H11375 l1 k) (fun k => fI H11153 l1 k) (16 * x11157.toNatClampNeg) (96) (x11284.toNatClampNeg + 1) := CP.congr (fun j => Wr.neI wH11375 (Or.inl (G_ne gl1 gl2 (by decide)))) b11348
          have b11388 : CP (fun k => fI H11375 l2 k) (fun k => fI H11153 l2 k) (16 * x11157.toNatClampNeg) (96) (x11284.toNatClampNeg + 1) := CP.step b11349 (i := x11371.toNatClampNeg) (k := x11373.toNatClampNeg) (x := x11374) (ix16 tx11370 tx11371 hrw.1 hlw.1) (le16 hrw hlw) (ixk n_96 tx11373 hlw.1) ex11374 (Wr.I wH11375) (fun j hj => Wr.neI wH11375 (Or.inr hj))
          have b11389 : CP (fun k => fI H11375 l3 k) (fun k => fI H11153 l3 k) (16 * x11157.toNatClampNeg) (96) (x11284.toNatClampNeg) := CP.congr (fun j => Wr.neI wH11375 (Or.inl (G_ne gl3 gl2 (by decide)))) b11350
          have f11390 : ∀ j : Nat, bt j = (fI H11375 tq j).toInt := fun j => (f11351 j).trans (congrArg Int32.toInt (Wr.neI wH11375 (Or.inl (G_ne gtq gl2 (by decide)))).symm)
          have f11391 : ∀ j : Nat, fI H11375 mq j = fI s.heap mq j := fun j => (Wr.neI wH11375 (Or.inl (G_ne gmq gl2 (by decide)))).trans (f11352 j)
          have m11392 := m11353.trans (Wr.neI wH11375 (Or.inl (G_ne ga0 gl2 (by decide)))).symm
          have m11393 := m11354.trans (Wr.neI wH11375 (Or.inl (G_ne ga0 gl2 (by decide)))).symm
          have m11394 := m11355.trans (Wr.neR wH11375 (Or.inl (G_ne ga0 gl2 (by decide)))).symm
          have m11395 := m11356.trans (Wr.neR wH11375 (Or.inl (G_ne ga0 gl2 (by decide)))).symm
          have m11396 := m11357.trans (Wr.neR wH11375 (Or.inl (G_ne ga0 gl2 (by decide)))).symm
          have m11397 := m11358.trans (Wr.neR wH11375 (Or.inl (G_ne ga0 gl2 (by decide)))).symm
          have m11398 := m11359.trans (Wr.neR wH11375 (Or.inl (G_ne ga0 gl2 (by decide)))).symm
          have m11399 := m11360.trans (Wr.neR wH11375 (Or.inl (G_ne ga0 gl2 (by decide)))).symm
          have m11400 := m11361.trans (Wr.neR wH11375 (Or.inl (G_ne ga0 gl2 (by decide)))).symm
          have m11401 := m11362.trans (Wr.neR wH11375 (Or.inl (G_ne ga0 gl2 (by decide)))).symm
          have m11402 := m11363.trans (Wr.neR wH11375 (Or.inl (G_ne ga0 gl2 (by decide)))).symm
          have m11403 := m11364.trans (Wr.neR wH11375 (Or.inl (G_ne ga0 gl2 (by decide)))).symm
          have m11404 := m11365.trans (Wr.neR wH11375 (Or.inl (G_ne ga0 gl2 (by decide)))).symm
          have m11405 := m11366.trans (Wr.neI wH11375 (Or.inl (G_ne glsq gl2 (by decide)))).symm
          have m11406 := m11368.trans (Wr.neI wH11375 (Or.inl (G_ne gl1 gl2 (by decide)))).symm
          have m11408 := Wr.I wH11375
          have m11408 := m11408.symm
          clear b11341 b11342 b11343 b11344 b11345 b11346 b11347 b11348 b11349 b11350 ex11374 f11351 f11352 g11338 g11339 g11340 hTH11336 m11353 m11354 m11355 m11356 m11357 m11358 m11359 m11360 m11361 m11362 m11363 m11364 m11365 m11366 m11368 mf11337
          clear tx11370 tx11371 tx11373 bx11374 ex11370 ex11371 ex11373
          refine lv_aload_n hx hb dX10_text_228 rfl (lv_at hl11283 0 rfl) ?_
          refine x_gr C hTH11375 (ci := 10) (k := 28) rfl inX10 (by decide) wF_X10_71 ga0 rg_112 rfl dX10_text_229 (fun q11409 eq11409 gq11409 => ?_)
          have uq11409 : l3 = q11409 := (m11403).trans eq11409.symm
          subst uq11409
          clear eq11409
          refine lv_bipush (v := 16) hx hb dX10_text_232 (by decide) ?_
          refine lv_iload hx hb dX10_text_234 (lv_at hl11283 2 rfl) ?_
          refine lv_imul hx hb dX10_text_236 ?_
          refine lv_topi (fun x11410 ex11410 => ?_)
          have tx11410 := i_mul ex11410 (by rw [n_16]; omega)
          rw [n_16] at tx11410
          refine lv_iload hx hb dX10_text_237 (lv_at hl11283 3 rfl) ?_
          refine lv_iadd hx hb dX10_text_239 ?_
          refine lv_topi (fun x11411 ex11411 => ?_)
          have tx11411 := i_add ex11411 (by omega)
          refine lv_aload_n hx hb dX10_text_240 rfl (lv_at hl11283 0 rfl) ?_
          refine x_gr C hTH11375 (ci := 10) (k := 28) rfl inX10 (by decide) wF_X10_71 ga0 rg_112 rfl dX10_text_241 (fun q11412 eq11412 gq11412 => ?_)
          have uq11412 : l3 = q11412 := (m11403).trans eq11412.symm
          subst uq11412
          clear eq11412
          refine lv_bipush (v := 96) hx hb dX10_text_244 (by decide) ?_
          refine lv_iload hx hb dX10_text_246 (lv_at hl11283 3 rfl) ?_
          refine lv_iadd hx hb dX10_text_248 ?_
          refine lv_topi (fun x11413 ex11413 => ?_)
          have tx11413 := i_add ex11413 (by omega)
          refine x_ai C hTH11375 gl3 rg_132 ⟨by omega, by show _ < ((112 : Nat) : Int); omega⟩ dX10_text_249 (fun x11414 ex11414 bx11414 => ?_)
          refine x_iast C hTH11375 hSH11375 gl3 rg_132 (by omega) (by show _ < ((112 : Nat) : Int); omega) (i_rng x11414) (AE_in gl3 (by decide)) dX10_text_250 (fun H11415 locsH11415 hTH11415 hSH11415 wH11415 => ?_)
          have mf11416 : MF K s.heap H11415 a0 [0, 18, 19, 20, 21, 22, 34, 35, 36, 38, 39, 40, 41, 42] := MF.arr wH11415 (G_ne ga0 gl3 (by decide)) mf11376
          have g11417 : TU (avw K H11415 a0) (svw K H11415 a0) := TU.congr (fun k hk j => av_arr hTH11375 ga0 wH11415 gl3 (by decide) (TU_ok 132 (by decide) k hk)) (fun k hk => sv_arr ga0 wH11415 gl3 (by decide)) g11377
          have g11418 : WD (avw K H11415 a0) := WD.congr (fun k hk j => av_arr hTH11375 ga0 wH11415 gl3 (by decide) (WD_ok 132 (by decide) k hk)) g11378
          have g11419 : IM (avw K H11415 a0) := IM.congr (fun k hk j => av_arr hTH11375 ga0 wH11415 gl3 (by decide) (IM_ok 132 (by decide) k hk)) g11379
          have b11420 : CP (fun k => fI H11415 f9 k) (fun k => fI H11153 f9 k) (16 * x11157.toNatClampNeg) (96) (x11284.toNatClampNeg) := CP.congr (fun j => Wr.neI wH11415 (Or.inl (G_ne gf9 gl3 (by decide)))) b11380
          have b11421 : CP (fun k => fI H11415 f0 k) (fun k => fI H11153 f0 k) (16 * x11157.toNatClampNeg) (96) (x11284.toNatClampNeg) := CP.congr (fun j => Wr.neI wH11415 (Or.inl (G_ne gf0 gl3 (by decide)))) b11381
          have b11422 : CP (fun k => fI H11415 f1 k) (fun k => fI H11153 f1 k) (16 * x11157.toNatClampNeg) (96) (x11284.toNatClampNeg) := CP.congr (fun j => Wr.neI wH11415 (Or.inl (G_ne gf1 gl3 (by decide)))) b11382
          have b11423 : CP (fun k => fI H11415 oq k) (fun k => fI H11153 oq k) (500 * x11157.toNatClampNeg) (3000) (0) := CP.congr (fun j => Wr.neI wH11415 (Or.inl (G_ne goq gl3 (by decide)))) b11383
          have b11424 : CP (fun k => fI H11415 aq k) (fun k => fI H11153 aq k) (500 * x11157.toNatClampNeg) (3000) (0) := CP.congr (fun j => Wr.neI wH11415 (Or.inl (G_ne gaq gl3 (by decide)))) b11384
          have b11425 : CP (fun k => fI H11415 mq k) (fun k => fI H11153 mq k) (0) (0) (0) := CP.congr (fun j => Wr.neI wH11415 (Or.inl (G_ne gmq gl3 (by decide)))) b11385
          have b11426 : CP (fun k => fI H11415 lsq k) (fun k => fI H11153 lsq k) (16 * x11157.toNatClampNeg) (96) (x11284.toNatClampNeg + 1) := CP.congr (fun j => Wr.neI wH11415 (Or.inl (G_ne glsq gl3 (by decide)))) b11386
          have b11427 : CP (fun k => fI H11415 l1 k) (fun k => fI H11153 l1 k) (16 * x11157.toNatClampNeg) (96) (x11284.toNatClampNeg + 1) := CP.congr (fun j => Wr.neI wH11415 (Or.inl (G_ne gl1 gl3 (by decide)))) b11387
          have b11428 : CP (fun k => fI H11415 l2 k) (fun k => fI H11153 l2 k) (16 * x11157.toNatClampNeg) (96) (x11284.toNatClampNeg + 1) := CP.congr (fun j => Wr.neI wH11415 (Or.inl (G_ne gl2 gl3 (by decide)))) b11388
          have b11429 : CP (fun k => fI H11415 l3 k) (fun k => fI H11153 l3 k) (16 * x11157.toNatClampNeg) (96) (x11284.toNatClampNeg + 1) := CP.step b11389 (i := x11411.toNatClampNeg) (k := x11413.toNatClampNeg) (x := x11414) (ix16 tx11410 tx11411 hrw.1 hlw.1) (le16 hrw hlw) (ixk n_96 tx11413 hlw.1) ex11414 (Wr.I wH11415) (fun j hj => Wr.neI wH11415 (Or.inr hj))
          have f11430 : ∀ j : Nat, bt j = (fI H11415 tq j).toInt := fun j => (f11390 j).trans (congrArg Int32.toInt (Wr.neI wH11415 (Or.inl (G_ne gtq gl3 (by decide)))).symm)
          have f11431 : ∀ j : Nat, fI H11415 mq j = fI s.heap mq j := fun j => (Wr.neI wH11415 (Or.inl (G_ne gmq gl3 (by decide)))).trans (f11391 j)
          have m11432 := m11392.trans (Wr.neI wH11415 (Or.inl (G_ne ga0 gl3 (by decide)))).symm
          have m11433 := m11393.trans (Wr.neI wH11415 (Or.inl (G_ne ga0 gl3 (by decide)))).symm
          have m11434 := m11394.trans (Wr.neR wH11415 (Or.inl (G_ne ga0 gl3 (by decide)))).symm
          have m11435 := m11395.trans (Wr.neR wH11415 (Or.inl (G_ne ga0 gl3 (by decide)))).symm
          have m11436 := m11396.trans (Wr.neR wH11415 (Or.inl (G_ne ga0 gl3 (by decide)))).symm
          have m11437 := m11397.trans (Wr.neR wH11415 (Or.inl (G_ne ga0 gl3 (by decide)))).symm
          have m11438 := m11398.trans (Wr.neR wH11415 (Or.inl (G_ne ga0 gl3 (by decide)))).symm
          have m11439 := m11399.trans (Wr.neR wH11415 (Or.inl (G_ne ga0 gl3 (by decide)))).symm
          have m11440 := m11400.trans (Wr.neR wH11415 (Or.inl (G_ne ga0 gl3 (by decide)))).symm
          have m11441 := m11401.trans (Wr.neR wH11415 (Or.inl (G_ne ga0 gl3 (by decide)))).symm
          have m11442 := m11402.trans (Wr.neR wH11415 (Or.inl (G_ne ga0 gl3 (by decide)))).symm
          have m11443 := m11403.trans (Wr.neR wH11415 (Or.inl (G_ne ga0 gl3 (by decide)))).symm
          have m11444 := m11404.trans (Wr.neR wH11415 (Or.inl (G_ne ga0 gl3 (by decide)))).symm
          have m11445 := m11405.trans (Wr.neI wH11415 (Or.inl (G_ne glsq gl3 (by decide)))).symm
          have m11446 := m11406.trans (Wr.neI wH11415 (Or.inl (G_ne gl1 gl3 (by decide)))).symm
          have m11447 := m11408.trans (Wr.neI wH11415 (Or.inl (G_ne gl2 gl3 (by decide)))).symm
          have m11449 := Wr.I wH11415
          have m11449 := m11449.symm
          clear b11380 b11381 b11382 b11383 b11384 b11385 b11386 b11387 b11388 b11389 ex11414 f11390 f11391 g11377 g11378 g11379 hTH11375 m11392 m11393 m11394 m11395 m11396 m11397 m11398 m11399 m11400 m11401 m11402 m11403 m11404 m11405 m11406 m11408 mf11376
          clear tx11410 tx11411 tx11413 bx11414 ex11410 ex11411 ex11413
          refine lv_aload_n hx hb dX10_text_251 rfl (lv_at hl11283 0 rfl) ?_
          refine x_gr C hTH11415 (ci := 10) (k := 29) rfl inX10 (by decide) wF_X10_74 ga0 rg_112 rfl dX10_text_252 (fun q11450 eq11450 gq11450 => ?_)
          have uq11450 : f9 = q11450 := (m11436).trans eq11450.symm
          subst uq11450
          clear eq11450
          refine lv_bipush (v := 16) hx hb dX10_text_255 (by decide) ?_
          refine lv_iload hx hb dX10_text_257 (lv_at hl11283 2 rfl) ?_
          refine lv_imul hx hb dX10_text_259 ?_
          refine lv_topi (fun x11451 ex11451 => ?_)
          have tx11451 := i_mul ex11451 (by rw [n_16]; omega)
          rw [n_16] at tx11451
          refine lv_iload hx hb dX10_text_260 (lv_at hl11283 3 rfl) ?_
          refine lv_iadd hx hb dX10_text_262 ?_
          refine lv_topi (fun x11452 ex11452 => ?_)
          have tx11452 := i_add ex11452 (by omega)
          refine lv_aload_n hx hb dX10_text_263 rfl (lv_at hl11283 0 rfl) ?_
          refine x_gr C hTH11415 (ci := 10) (k := 29) rfl inX10 (by decide) wF_X10_74 ga0 rg_112 rfl dX10_text_264 (fun q11453 eq11453 gq11453 => ?_)
          have uq11453 : f9 = q11453 := (m11436).trans eq11453.symm
          subst uq11453
          clear eq11453
          refine lv_bipush (v := 96) hx hb dX10_text_267 (by decide) ?_
          refine lv_iload hx hb dX10_text_269 (lv_at hl11283 3 rfl) ?_
          refine lv_iadd hx hb dX10_text_271 ?_
          refine lv_topi (fun x11454 ex11454 => ?_)
          have tx11454 := i_add ex11454 (by omega)
          refine x_ai C hTH11415 gf9 rg_133 ⟨by omega, by show _ < ((112 : Nat) : Int); omega⟩ dX10_text_272 (fun x11455 ex11455 bx11455 => ?_)
          refine x_iast C hTH11415 hSH11415 gf9 rg_133 (by omega) (by show _ < ((112 : Nat) : Int); omega) ⟨Int.le_trans (by decide) bx11455.1, Int.le_trans bx11455.2 (by decide)⟩ (AE_in gf9 (by decide)) dX10_text_273 (fun H11456 locsH11456 hTH11456 hSH11456 wH11456 => ?_)
          have mf11457 : MF K s.heap H11456 a0 [0, 18, 19, 20, 21, 22, 34, 35, 36, 38, 39, 40, 41, 42] := MF.arr wH11456 (G_ne ga0 gf9 (by decide)) mf11416
          have g11458 : TU (avw K H11456 a0) (svw K H11456 a0) := TU.congr (fun k hk j => av_arr hTH11415 ga0 wH11456 gf9 (by decide) (TU_ok 133 (by decide) k hk)) (fun k hk => sv_arr ga0 wH11456 gf9 (by decide)) g11417
          have g11459 : WD (avw K H11456 a0) := WD.congr (fun k hk j => av_arr hTH11415 ga0 wH11456 gf9 (by decide) (WD_ok 133 (by decide) k hk)) g11418
          have g11460 : IM (avw K H11456 a0) := IM.congr (fun k hk j => av_arr hTH11415 ga0 wH11456 gf9 (by decide) (IM_ok 133 (by decide) k hk)) g11419
          have b11461 : CP (fun k => fI H11456 f9 k) (fun k => fI H11153 f9 k) (16 * x11157.toNatClampNeg) (96) (x11284.toNatClampNeg + 1) := CP.step b11420 (i := x11452.toNatClampNeg) (k := x11454.toNatClampNeg) (x := x11455) (ix16 tx11451 tx11452 hrw.1 hlw.1) (le16 hrw hlw) (ixk n_96 tx11454 hlw.1) ex11455 (Wr.I wH11456) (fun j hj => Wr.neI wH11456 (Or.inr hj))
          have b11462 : CP (fun k => fI H11456 f0 k) (fun k => fI H11153 f0 k) (16 * x11157.toNatClampNeg) (96) (x11284.toNatClampNeg) := CP.congr (fun j => Wr.neI wH11456 (Or.inl (G_ne gf0 gf9 (by decide)))) b11421
          have b11463 : CP (fun k => fI H11456 f1 k) (fun k => fI H11153 f1 k) (16 * x11157.toNatClampNeg) (96) (x11284.toNatClampNeg) := CP.congr (fun j => Wr.neI wH11456 (Or.inl (G_ne gf1 gf9 (by decide)))) b11422
          have b11464 : CP (fun k => fI H11456 oq k) (fun k => fI H11153 oq k) (500 * x11157.toNatClampNeg) (3000) (0) := CP.congr (fun j => Wr.neI wH11456 (Or.inl (G_ne goq gf9 (by decide)))) b11423
          have b11465 : CP (fun k => fI H11456 aq k) (fun k => fI H11153 aq k) (500 * x11157.toNatClampNeg) (3000) (0) := CP.congr (fun j => Wr.neI wH11456 (Or.inl (G_ne gaq gf9 (by decide)))) b11424
          have b11466 : CP (fun k => fI H11456 mq k) (fun k => fI H11153 mq k) (0) (0) (0) := CP.congr (fun j => Wr.neI wH11456 (Or.inl (G_ne gmq gf9 (by decide)))) b11425
          have b11467 : CP (fun k => fI H11456 lsq k) (fun k => fI H11153 lsq k) (16 * x11157.toNatClampNeg) (96) (x11284.toNatClampNeg + 1) := CP.congr (fun j => Wr.neI wH11456 (Or.inl (G_ne glsq gf9 (by decide)))) b11426
          have b11468 : CP (fun k => fI H11456 l1 k) (fun k => fI H11153 l1 k) (16 * x11157.toNatClampNeg) (96) (x11284.toNatClampNeg + 1) := CP.congr (fun j => Wr.neI wH11456 (Or.inl (G_ne gl1 gf9 (by decide)))) b11427
          have b11469 : CP (fun k => fI H11456 l2 k) (fun k => fI H11153 l2 k) (16 * x11157.toNatClampNeg) (96) (x11284.toNatClampNeg + 1) := CP.congr (fun j => Wr.neI wH11456 (Or.inl (G_ne gl2 gf9 (by decide)))) b11428
          have b11470 : CP (fun k => fI H11456 l3 k) (fun k => fI H11153 l3 k) (16 * x11157.toNatClampNeg) (96) (x11284.toNatClampNeg + 1) := CP.congr (fun j => Wr.neI wH11456 (Or.inl (G_ne gl3 gf9 (by decide)))) b11429
          have f11471 : ∀ j : Nat, bt j = (fI H11456 tq j).toInt := fun j => (f11430 j).trans (congrArg Int32.toInt (Wr.neI wH11456 (Or.inl (G_ne gtq gf9 (by decide)))).symm)
          have f11472 : ∀ j : Nat, fI H11456 mq j = fI s.heap mq j := fun j => (Wr.neI wH11456 (Or.inl (G_ne gmq gf9 (by decide)))).trans (f11431 j)
          have m11473 := m11432.trans (Wr.neI wH11456 (Or.inl (G_ne ga0 gf9 (by decide)))).symm
          have m11474 := m11433.trans (Wr.neI wH11456 (Or.inl (G_ne ga0 gf9 (by decide)))).symm
          have m11475 := m11434.trans (Wr.neR wH11456 (Or.inl (G_ne ga0 gf9 (by decide)))).symm
          have m11476 := m11435.trans (Wr.neR wH11456 (Or.inl (G_ne ga0 gf9 (by decide)))).symm
          have m11477 := m11436.trans (Wr.neR wH11456 (Or.inl (G_ne ga0 gf9 (by decide)))).symm
          have m11478 := m11437.trans (Wr.neR wH11456 (Or.inl (G_ne ga0 gf9 (by decide)))).symm
          have m11479 := m11438.trans (Wr.neR wH11456 (Or.inl (G_ne ga0 gf9 (by decide)))).symm
          have m11480 := m11439.trans (Wr.neR wH11456 (Or.inl (G_ne ga0 gf9 (by decide)))).symm
          have m11481 := m11440.trans (Wr.neR wH11456 (Or.inl (G_ne ga0 gf9 (by decide)))).symm
          have m11482 := m11441.trans (Wr.neR wH11456 (Or.inl (G_ne ga0 gf9 (by decide)))).symm
          have m11483 := m11442.trans (Wr.neR wH11456 (Or.inl (G_ne ga0 gf9 (by decide)))).symm
          have m11484 := m11443.trans (Wr.neR wH11456 (Or.inl (G_ne ga0 gf9 (by decide)))).symm
          have m11485 := m11444.trans (Wr.neR wH11456 (Or.inl (G_ne ga0 gf9 (by decide)))).symm
          have m11486 := m11445.trans (Wr.neI wH11456 (Or.inl (G_ne glsq gf9 (by decide)))).symm
          have m11487 := m11446.trans (Wr.neI wH11456 (Or.inl (G_ne gl1 gf9 (by decide)))).symm
          have m11488 := m11447.trans (Wr.neI wH11456 (Or.inl (G_ne gl2 gf9 (by decide)))).symm
          have m11489 := m11449.trans (Wr.neI wH11456 (Or.inl (G_ne gl3 gf9 (by decide)))).symm
          have m11491 := Wr.I wH11456
          have m11491 := m11491.symm
          clear b11420 b11421 b11422 b11423 b11424 b11425 b11426 b11427 b11428 b11429 ex11455 f11430 f11431 g11417 g11418 g11419 hTH11415 m11432 m11433 m11434 m11435 m11436 m11437 m11438 m11439 m11440 m11441 m11442 m11443 m11444 m11445 m11446 m11447 m11449 mf11416
          clear tx11451 tx11452 tx11454 bx11455 ex11451 ex11452 ex11454
          refine lv_aload_n hx hb dX10_text_274 rfl (lv_at hl11283 0 rfl) ?_
          refine x_gr C hTH11456 (ci := 10) (k := 30) rfl inX10 (by decide) wF_X10_77 ga0 rg_112 rfl dX10_text_275 (fun q11492 eq11492 gq11492 => ?_)
          have uq11492 : f0 = q11492 := (m11478).trans eq11492.symm
          subst uq11492
          clear eq11492
          refine lv_bipush (v := 16) hx hb dX10_text_278 (by decide) ?_
          refine lv_iload hx hb dX10_text_280 (lv_at hl11283 2 rfl) ?_
          refine lv_imul hx hb dX10_text_282 ?_
          refine lv_topi (fun x11493 ex11493 => ?_)
          have tx11493 := i_mul ex11493 (by rw [n_16]; omega)
          rw [n_16] at tx11493
          refine lv_iload hx hb dX10_text_283 (lv_at hl11283 3 rfl) ?_
          refine lv_iadd hx hb dX10_text_285 ?_
          refine lv_topi (fun x11494 ex11494 => ?_)
          have tx11494 := i_add ex11494 (by omega)
          refine lv_aload_n hx hb dX10_text_286 rfl (lv_at hl11283 0 rfl) ?_
          refine x_gr C hTH11456 (ci := 10) (k := 30) rfl inX10 (by decide) wF_X10_77 ga0 rg_112 rfl dX10_text_287 (fun q11495 eq11495 gq11495 => ?_)
          have uq11495 : f0 = q11495 := (m11478).trans eq11495.symm
          subst uq11495
          clear eq11495
          refine lv_bipush (v := 96) hx hb dX10_text_290 (by decide) ?_
          refine lv_iload hx hb dX10_text_292 (lv_at hl11283 3 rfl) ?_
          refine lv_iadd hx hb dX10_text_294 ?_
          refine lv_topi (fun x11496 ex11496 => ?_)
          have tx11496 := i_add ex11496 (by omega)
          refine x_ai C hTH11456 gf0 rg_134 ⟨by omega, by show _ < ((112 : Nat) : Int); omega⟩ dX10_text_295 (fun x11497 ex11497 bx11497 => ?_)
          refine x_iast C hTH11456 hSH11456 gf0 rg_134 (by omega) (by show _ < ((112 : Nat) : Int); omega) ⟨Int.le_trans (by decide) bx11497.1, Int.le_trans bx11497.2 (by decide)⟩ (AE_in gf0 (by decide)) dX10_text_296 (fun H11498 locsH11498 hTH11498 hSH11498 wH11498 => ?_)
          have mf11499 : MF K s.heap H11498 a0 [0, 18, 19, 20, 21, 22, 34, 35, 36, 38, 39, 40, 41, 42] := MF.arr wH11498 (G_ne ga0 gf0 (by decide)) mf11457
          have g11500 : TU (avw K H11498 a0) (svw K H11498 a0) := TU.congr (fun k hk j => av_arr hTH11456 ga0 wH11498 gf0 (by decide) (TU_ok 134 (by decide) k hk)) (fun k hk => sv_arr ga0 wH11498 gf0 (by decide)) g11458
          have g11501 : WD (avw K H11498 a0) := WD.congr (fun k hk j => av_arr hTH11456 ga0 wH11498 gf0 (by decide) (WD_ok 134 (by decide) k hk)) g11459
          have g11502 : IM (avw K H11498 a0) := IM.congr (fun k hk j => av_arr hTH11456 ga0 wH11498 gf0 (by decide) (IM_ok 134 (by decide) k hk)) g11460
          have b11503 : CP (fun k => fI H11498 f9 k) (fun k => fI H11153 f9 k) (16 * x11157.toNatClampNeg) (96) (x11284.toNatClampNeg + 1) := CP.congr (fun j => Wr.neI wH11498 (Or.inl (G_ne gf9 gf0 (by decide)))) b11461
          have b11504 : CP (fun k => fI H11498 f0 k) (fun k => fI H11153 f0 k) (16 * x11157.toNatClampNeg) (96) (x11284.toNatClampNeg + 1) := CP.step b11462 (i := x11494.toNatClampNeg) (k := x11496.toNatClampNeg) (x := x11497) (ix16 tx11493 tx11494 hrw.1 hlw.1) (le16 hrw hlw) (ixk n_96 tx11496 hlw.1) ex11497 (Wr.I wH11498) (fun j hj => Wr.neI wH11498 (Or.inr hj))
          have b11505 : CP (fun k => fI H11498 f1 k) (fun k => fI H11153 f1 k) (16 * x11157.toNatClampNeg) (96) (x11284.toNatClampNeg) := CP.congr (fun j => Wr.neI wH11498 (Or.inl (G_ne gf1 gf0 (by decide)))) b11463
          have b11506 : CP (fun k => fI H11498 oq k) (fun k => fI H11153 oq k) (500 * x11157.toNatClampNeg) (3000) (0) := CP.congr (fun j => Wr.neI wH11498 (Or.inl (G_ne goq gf0 (by decide)))) b11464
          have b11507 : CP (fun k => fI H11498 aq k) (fun k => fI H11153 aq k) (500 * x11157.toNatClampNeg) (3000) (0) := CP.congr (fun j => Wr.neI wH11498 (Or.inl (G_ne gaq gf0 (by decide)))) b11465
          have b11508 : CP (fun k => fI H11498 mq k) (fun k => fI H11153 mq k) (0) (0) (0) := CP.congr (fun j => Wr.neI wH11498 (Or.inl (G_ne gmq gf0 (by decide)))) b11466
          have b11509 : CP (fun k => fI H11498 lsq k) (fun k => fI H11153 lsq k) (16 * x11157.toNatClampNeg) (96) (x11284.toNatClampNeg + 1) := CP.congr (fun j => Wr.neI wH11498 (Or.inl (G_ne glsq gf0 (by decide)))) b11467
          have b11510 : CP (fun k => fI H11498 l1 k) (fun k => fI H11153 l1 k) (16 * x11157.toNatClampNeg) (96) (x11284.toNatClampNeg + 1) := CP.congr (fun j => Wr.neI wH11498 (Or.inl (G_ne gl1 gf0 (by decide)))) b11468
          have b11511 : CP (fun k => fI H11498 l2 k) (fun k => fI H11153 l2 k) (16 * x11157.toNatClampNeg) (96) (x11284.toNatClampNeg + 1) := CP.congr (fun j => Wr.neI wH11498 (Or.inl (G_ne gl2 gf0 (by decide)))) b11469
          have b11512 : CP (fun k => fI H11498 l3 k) (fun k => fI H11153 l3 k) (16 * x11157.toNatClampNeg) (96) (x11284.toNatClampNeg + 1) := CP.congr (fun j => Wr.neI wH11498 (Or.inl (G_ne gl3 gf0 (by decide)))) b11470
          have f11513 : ∀ j : Nat, bt j = (fI H11498 tq j).toInt := fun j => (f11471 j).trans (congrArg Int32.toInt (Wr.neI wH11498 (Or.inl (G_ne gtq gf0 (by decide)))).symm)
          have f11514 : ∀ j : Nat, fI H11498 mq j = fI s.heap mq j := fun j => (Wr.neI wH11498 (Or.inl (G_ne gmq gf0 (by decide)))).trans (f11472 j)
          have m11515 := m11473.trans (Wr.neI wH11498 (Or.inl (G_ne ga0 gf0 (by decide)))).symm
          have m11516 := m11474.trans (Wr.neI wH11498 (Or.inl (G_ne ga0 gf0 (by decide)))).symm
          have m11517 := m11475.trans (Wr.neR wH11498 (Or.inl (G_ne ga0 gf0 (by decide)))).symm
          have m11518 := m11476.trans (Wr.neR wH11498 (Or.inl (G_ne ga0 gf0 (by decide)))).symm
          have m11519 := m11477.trans (Wr.neR wH11498 (Or.inl (G_ne ga0 gf0 (by decide)))).symm
          have m11520 := m11478.trans (Wr.neR wH11498 (Or.inl (G_ne ga0 gf0 (by decide)))).symm
          have m11521 := m11479.trans (Wr.neR wH11498 (Or.inl (G_ne ga0 gf0 (by decide)))).symm
          have m11522 := m11480.trans (Wr.neR wH11498 (Or.inl (G_ne ga0 gf0 (by decide)))).symm
          have m11523 := m11481.trans (Wr.neR wH11498 (Or.inl (G_ne ga0 gf0 (by decide)))).symm
          have m11524 := m11482.trans (Wr.neR wH11498 (Or.inl (G_ne ga0 gf0 (by decide)))).symm
          have m11525 := m11483.trans (Wr.neR wH11498 (Or.inl (G_ne ga0 gf0 (by decide)))).symm
          have m11526 := m11484.trans (Wr.neR wH11498 (Or.inl (G_ne ga0 gf0 (by decide)))).symm
          have m11527 := m11485.trans (Wr.neR wH11498 (Or.inl (G_ne ga0 gf0 (by decide)))).symm
          have m11528 := m11486.trans (Wr.neI wH11498 (Or.inl (G_ne glsq gf0 (by decide)))).symm
          have m11529 := m11487.trans (Wr.neI wH11498 (Or.inl (G_ne gl1 gf0 (by decide)))).symm
          have m11530 := m11488.trans (Wr.neI wH11498 (Or.inl (G_ne gl2 gf0 (by decide)))).symm
          have m11531 := m11489.trans (Wr.neI wH11498 (Or.inl (G_ne gl3 gf0 (by decide)))).symm
          have m11532 := m11491.trans (Wr.neI wH11498 (Or.inl (G_ne gf9 gf0 (by decide)))).symm
          have m11534 := Wr.I wH11498
          have m11534 := m11534.symm
          clear b11461 b11462 b11463 b11464 b11465 b11466 b11467 b11468 b11469 b11470 ex11497 f11471 f11472 g11458 g11459 g11460 hTH11456 m11473 m11474 m11475 m11476 m11477 m11478 m11479 m11480 m11481 m11482 m11483 m11484 m11485 m11486 m11487 m11488 m11489 m11491 mf11457
          clear tx11493 tx11494 tx11496 bx11497 ex11493 ex11494 ex11496
          refine lv_aload_n hx hb dX10_text_297 rfl (lv_at hl11283 0 rfl) ?_
          refine x_gr C hTH11498 (ci := 10) (k := 31) rfl inX10 (by decide) wF_X10_80 ga0 rg_112 rfl dX10_text_298 (fun q11535 eq11535 gq11535 => ?_)
          have uq11535 : f1 = q11535 := (m11521).trans eq11535.symm
          subst uq11535
          clear eq11535
          refine lv_bipush (v := 16) hx hb dX10_text_301 (by decide) ?_
          refine lv_iload hx hb dX10_text_303 (lv_at hl11283 2 rfl) ?_
          refine lv_imul hx hb dX10_text_305 ?_
          refine lv_topi (fun x11536 ex11536 => ?_)
          have tx11536 := i_mul ex11536 (by rw [n_16]; omega)
          rw [n_16] at tx11536
          refine lv_iload hx hb dX10_text_306 (lv_at hl11283 3 rfl) ?_
          refine lv_iadd hx hb dX10_text_308 ?_
          refine lv_topi (fun x11537 ex11537 => ?_)
          have tx11537 := i_add ex11537 (by omega)
          refine lv_aload_n hx hb dX10_text_309 rfl (lv_at hl11283 0 rfl) ?_
          refine x_gr C hTH11498 (ci := 10) (k := 31) rfl inX10 (by decide) wF_X10_80 ga0 rg_112 rfl dX10_text_310 (fun q11538 eq11538 gq11538 => ?_)
          have uq11538 : f1 = q11538 := (m11521).trans eq11538.symm
          subst uq11538
          clear eq11538
          refine lv_bipush (v := 96) hx hb dX10_text_313 (by decide) ?_
          refine lv_iload hx hb dX10_text_315 (lv_at hl11283 3 rfl) ?_
          refine lv_iadd hx hb dX10_text_317 ?_
          refine lv_topi (fun x11539 ex11539 => ?_)
          have tx11539 := i_add ex11539 (by omega)
          refine x_ai C hTH11498 gf1 rg_135 ⟨by omega, by show _ < ((112 : Nat) : Int); omega⟩ dX10_text_318 (fun x11540 ex11540 bx11540 => ?_)
          refine x_iast C hTH11498 hSH11498 gf1 rg_135 (by omega) (by show _ < ((112 : Nat) : Int); omega) ⟨Int.le_trans (by decide) bx11540.1, Int.le_trans bx11540.2 (by decide)⟩ (AE_in gf1 (by decide)) dX10_text_319 (fun H11541 locsH11541 hTH11541 hSH11541 wH11541 => ?_)
          have mf11542 : MF K s.heap H11541 a0 [0, 18, 19, 20, 21, 22, 34, 35, 36, 38, 39, 40, 41, 42] := MF.arr wH11541 (G_ne ga0 gf1 (by decide)) mf11499
          have g11543 : TU (avw K H11541 a0) (svw K H11541 a0) := TU.congr (fun k hk j => av_arr hTH11498 ga0 wH11541 gf1 (by decide) (TU_ok 135 (by decide) k hk)) (fun k hk => sv_arr ga0 wH11541 gf1 (by decide)) g11500
          have g11544 : WD (avw K H11541 a0) := WD.congr (fun k hk j => av_arr hTH11498 ga0 wH11541 gf1 (by decide) (WD_ok 135 (by decide) k hk)) g11501
          have g11545 : IM (avw K H11541 a0) := IM.congr (fun k hk j => av_arr hTH11498 ga0 wH11541 gf1 (by decide) (IM_ok 135 (by decide) k hk)) g11502
          have b11546 : CP (fun k => fI H11541 f9 k) (fun k => fI H11153 f9 k) (16 * x11157.toNatClampNeg) (96) (x11284.toNatClampNeg + 1) := CP.congr (fun j => Wr.neI wH11541 (Or.inl (G_ne gf9 gf1 (by decide)))) b11503
          have b11547 : CP (fun k => fI H11541 f0 k) (fun k => fI H11153 f0 k) (16 * x11157.toNatClampNeg) (96) (x11284.toNatClampNeg + 1) := CP.congr (fun j => Wr.neI wH11541 (Or.inl (G_ne gf0 gf1 (by decide)))) b11504
          have b11548 : CP (fun k => fI H11541 f1 k) (fun k => fI H11153 f1 k) (16 * x11157.toNatClampNeg) (96) (x11284.toNatClampNeg + 1) := CP.step b11505 (i := x11537.toNatClampNeg) (k := x11539.toNatClampNeg) (x := x11540) (ix16 tx11536 tx11537 hrw.1 hlw.1) (le16 hrw hlw) (ixk n_96 tx11539 hlw.1) ex11540 (Wr.I wH11541) (fun j hj => Wr.neI wH11541 (Or.inr hj))
          have b11549 : CP (fun k => fI H11541 oq k) (fun k => fI H11153 oq k) (500 * x11157.toNatClampNeg) (3000) (0) := CP.congr (fun j => Wr.neI wH11541 (Or.inl (G_ne goq gf1 (by decide)))) b11506
          have b11550 : CP (fun k => fI H11541 aq k) (fun k => fI H11153 aq k) (500 * x11157.toNatClampNeg) (3000) (0) := CP.congr (fun j => Wr.neI wH11541 (Or.inl (G_ne gaq gf1 (by decide)))) b11507
          have b11551 : CP (fun k => fI H11541 mq k) (fun k => fI H11153 mq k) (0) (0) (0) := CP.congr (fun j => Wr.neI wH11541 (Or.inl (G_ne gmq gf1 (by decide)))) b11508
          have b11552 : CP (fun k => fI H11541 lsq k) (fun k => fI H11153 lsq k) (16 * x11157.toNatClampNeg) (96) (x11284.toNatClampNeg + 1) := CP.congr (fun j => Wr.neI wH11541 (Or.inl (G_ne glsq gf1 (by decide)))) b11509
          have b11553 : CP (fun k => fI H11541 l1 k) (fun k => fI H11153 l1 k) (16 * x11157.toNatClampNeg) (96) (x11284.toNatClampNeg + 1) := CP.congr (fun j => Wr.neI wH11541 (Or.inl (G_ne gl1 gf1 (by decide)))) b11510
          have b11554 : CP (fun k => fI H11541 l2 k) (fun k => fI H11153 l2 k) (16 * x11157.toNatClampNeg) (96) (x11284.toNatClampNeg + 1) := CP.congr (fun j => Wr.neI wH11541 (Or.inl (G_ne gl2 gf1 (by decide)))) b11511
          have b11555 : CP (fun k => fI H11541 l3 k) (fun k => fI H11153 l3 k) (16 * x11157.toNatClampNeg) (96) (x11284.toNatClampNeg + 1) := CP.congr (fun j => Wr.neI wH11541 (Or.inl (G_ne gl3 gf1 (by decide)))) b11512
          have f11556 : ∀ j : Nat, bt j = (fI H11541 tq j).toInt := fun j => (f11513 j).trans (congrArg Int32.toInt (Wr.neI wH11541 (Or.inl (G_ne gtq gf1 (by decide)))).symm)
          have f11557 : ∀ j : Nat, fI H11541 mq j = fI s.heap mq j := fun j => (Wr.neI wH11541 (Or.inl (G_ne gmq gf1 (by decide)))).trans (f11514 j)
          have m11558 := m11515.trans (Wr.neI wH11541 (Or.inl (G_ne ga0 gf1 (by decide)))).symm
          have m11559 := m11516.trans (Wr.neI wH11541 (Or.inl (G_ne ga0 gf1 (by decide)))).symm
          have m11560 := m11517.trans (Wr.neR wH11541 (Or.inl (G_ne ga0 gf1 (by decide)))).symm
          have m11561 := m11518.trans (Wr.neR wH11541 (Or.inl (G_ne ga0 gf1 (by decide)))).symm
          have m11562 := m11519.trans (Wr.neR wH11541 (Or.inl (G_ne ga0 gf1 (by decide)))).symm
          have m11563 := m11520.trans (Wr.neR wH11541 (Or.inl (G_ne ga0 gf1 (by decide)))).symm
          have m11564 := m11521.trans (Wr.neR wH11541 (Or.inl (G_ne ga0 gf1 (by decide)))).symm
          have m11565 := m11522.trans (Wr.neR wH11541 (Or.inl (G_ne ga0 gf1 (by decide)))).symm
          have m11566 := m11523.trans (Wr.neR wH11541 (Or.inl (G_ne ga0 gf1 (by decide)))).symm
          have m11567 := m11524.trans (Wr.neR wH11541 (Or.inl (G_ne ga0 gf1 (by decide)))).symm
          have m11568 := m11525.trans (Wr.neR wH11541 (Or.inl (G_ne ga0 gf1 (by decide)))).symm
          have m11569 := m11526.trans (Wr.neR wH11541 (Or.inl (G_ne ga0 gf1 (by decide)))).symm
          have m11570 := m11527.trans (Wr.neR wH11541 (Or.inl (G_ne ga0 gf1 (by decide)))).symm
          have m11571 := m11528.trans (Wr.neI wH11541 (Or.inl (G_ne glsq gf1 (by decide)))).symm
          have m11572 := m11529.trans (Wr.neI wH11541 (Or.inl (G_ne gl1 gf1 (by decide)))).symm
          have m11573 := m11530.trans (Wr.neI wH11541 (Or.inl (G_ne gl2 gf1 (by decide)))).symm
          have m11574 := m11531.trans (Wr.neI wH11541 (Or.inl (G_ne gl3 gf1 (by decide)))).symm
          have m11575 := m11532.trans (Wr.neI wH11541 (Or.inl (G_ne gf9 gf1 (by decide)))).symm
          have m11576 := m11534.trans (Wr.neI wH11541 (Or.inl (G_ne gf0 gf1 (by decide)))).symm
          have m11578 := Wr.I wH11541
          have m11578 := m11578.symm
          clear b11503 b11504 b11505 b11506 b11507 b11508 b11509 b11510 b11511 b11512 ex11540 f11513 f11514 g11500 g11501 g11502 hTH11498 m11515 m11516 m11517 m11518 m11519 m11520 m11521 m11522 m11523 m11524 m11525 m11526 m11527 m11528 m11529 m11530 m11531 m11532 m11534 mf11499
          clear tx11536 tx11537 tx11539 bx11540 ex11536 ex11537 ex11539
          obtain ⟨x11579, ex11579⟩ : ∃ y : Int32, y = x11284 + 1 := ⟨_, rfl⟩
          have tx11579 := i_add ex11579 (by omega)
          refine lv_iinc (v := x11579) (lv' := [(6, .int x11579), (0, .ref a0), (4, .int x11156), (5, .int x11157)]) hx hb dX10_text_320 hl11283 (k := 3) rfl (by rw [ex11579]; rfl) (by decide) rfl (fun ls11580 hl11581 => ?_)
          refine lv_goto (tgt := 152) hx hb dX10_text_323 (by decide) ?_
          have cl_x11157 := i_cl (x := x11157) bx11157.1
          have cl_x11284 := i_cl (x := x11284) bx11284.1
          have cl_x11579 := i_cl (x := x11579) (by omega)
          exact ih152 ls11580 H11541 locsH11541 (x11579) (x11285) (x11286) (lv_sub hl11581 [1, 2, 3, 0] rfl) hTH11541 hSH11541 ⟨by have := i_rng x11579; omega, by have := i_rng x11579; omega⟩ bx11285 bx11286 m11558 m11559 m11560 m11561 m11562 m11563 m11564 m11565 m11566 m11567 m11568 m11569 m11570 (CP.cast b11546 (by omega) (by omega) (by omega)) (CP.cast b11547 (by omega) (by omega) (by omega)) (CP.cast b11548 (by omega) (by omega) (by omega)) (CP.cast b11549 (by omega) (by omega) (by omega)) (CP.cast b11550 (by omega) (by omega) (by omega)) (CP.cast b11551 (by omega) (by omega) (by omega)) (CP.cast b11552 (by omega) (by omega) (by omega)) (CP.cast b11553 (by omega) (by omega) (by omega)) (CP.cast b11554 (by omega) (by omega) (by omega)) (CP.cast b11555 (by omega) (by omega) (by omega)) mf11542 g11543 g11544 g11545 f11556 f11557 (by omega) (by omega)
    refine lv_iconst (v := 0) hx hb dX10_text_149 (by decide) ?_
    refine lv_istore (lv' := [(6, .int 0), (0, .ref a0), (4, .int x11156), (5, .int x11157)]) hx hb dX10_text_150 hl11155 (by decide) rfl (fun ls11582 hl11583 => ?_)
    have csz : CP (fun k => fI H11153 lsq k) (fun k => fI H11153 lsq k) (16 * x11157.toNatClampNeg) (96) (0) := CP.rf rfl
    have cAz : CP (fun k => fI H11153 l1 k) (fun k => fI H11153 l1 k) (16 * x11157.toNatClampNeg) (96) (0) := CP.rf rfl
    have cBz : CP (fun k => fI H11153 l2 k) (fun k => fI H11153 l2 k) (16 * x11157.toNatClampNeg) (96) (0) := CP.rf rfl
    have cDz : CP (fun k => fI H11153 l3 k) (fun k => fI H11153 l3 k) (16 * x11157.toNatClampNeg) (96) (0) := CP.rf rfl
    have c9z : CP (fun k => fI H11153 f9 k) (fun k => fI H11153 f9 k) (16 * x11157.toNatClampNeg) (96) (0) := CP.rf rfl
    have c0z : CP (fun k => fI H11153 f0 k) (fun k => fI H11153 f0 k) (16 * x11157.toNatClampNeg) (96) (0) := CP.rf rfl
    have c1z : CP (fun k => fI H11153 f1 k) (fun k => fI H11153 f1 k) (16 * x11157.toNatClampNeg) (96) (0) := CP.rf rfl
    have coz : CP (fun k => fI H11153 oq k) (fun k => fI H11153 oq k) (500 * x11157.toNatClampNeg) (3000) (0) := CP.rf rfl
    have caz : CP (fun k => fI H11153 aq k) (fun k => fI H11153 aq k) (500 * x11157.toNatClampNeg) (3000) (0) := CP.rf rfl
    have cmz : CP (fun k => fI H11153 mq k) (fun k => fI H11153 mq k) (0) (0) (0) := CP.rf rfl
    have cl00 : (0 : Int32).toNatClampNeg = 0 := rfl
    have cl_0 := i_cl (x := (0 : Int32)) (by omega)
    have cl_x11157 := i_cl (x := x11157) bx11157.1
    have cl_0 := i_cl (x := (0 : Int32)) (by omega)
    have cl_0 := i_cl (x := (0 : Int32)) (by omega)
    have cl_0 := i_cl (x := (0 : Int32)) (by omega)
    have cl_0 := i_cl (x := (0 : Int32)) (by omega)
    have cl_0 := i_cl (x := (0 : Int32)) (by omega)
    have cl_0 := i_cl (x := (0 : Int32)) (by omega)
    exact J152 ((16 - (0 : Int32).toInt).toNat + 1) ls11582 H11153 locsH11153 (0) (x11158) (x11159) (lv_sub hl11583 [1, 2, 3, 0] rfl) hTH11153 hSH11153 (by decide) bx11158 bx11159 ex11158 ex11159 cy11160_0 cy11160_1 cy11160_2 cy11160_3 cy11160_4 cy11160_5 cy11160_6 cy11160_7 cy11160_8 cy11160_9 cy11160_10 (CP.cast c9z (by omega) (by omega) (by omega)) (CP.cast c0z (by omega) (by omega) (by omega)) (CP.cast c1z (by omega) (by omega) (by omega)) (CP.cast coz (by omega) (by omega) (by omega)) (CP.cast caz (by omega) (by omega) (by omega)) (CP.cast cmz (by omega) (by omega) (by omega)) (CP.cast csz (by omega) (by omega) (by omega)) (CP.cast cAz (by omega) (by omega) (by omega)) (CP.cast cBz (by omega) (by omega) (by omega)) (CP.cast cDz (by omega) (by omega) (by omega)) mfy11160 gy11160_TU gy11160_WD gy11160_IM fy11160_bt fy11160_mo (by omega) (by omega)
  refine lv_aload_n hx hb dX10_text_0 rfl (lv_at hl 0 rfl) ?_
  refine lv_iconst (v := 0) hx hb dX10_text_1 (by decide) ?_
  refine x_put C hT hS (ci := 10) (k := 0) (v := .int 0) (ty0 := tyX10) rfl inX10 tyX10_ok nmX10 (by decide) rfl wF_X10_167 ga0 rg_112 rfl rfl (okI (i_rng (0 : Int32)).1 (i_rng (0 : Int32)).2) rfl rfl (AE_in ga0 (by decide)) dX10_text_2 (fun H11584 locsH11584 hTH11584 hSH11584 wH11584 => ?_)
  have mf11585 : MF K s.heap H11584 a0 [0, 18, 19, 20, 21, 22, 34, 35, 36, 38, 39, 40, 41, 42] := MF.fld hap wH11584 (by decide) (by decide) mf0
  have g11586 : CG (avw K H11584 a0) := CG.congr (fun k hk j => av_fld hT ga0 hap wH11584 (by decide) (CG_ok 112 (by decide) k hk) (CG_ne 0 (by decide) k hk)) hg_CG
  have g11587 : TU (avw K H11584 a0) (svw K H11584 a0) := TU.congr (fun k hk j => av_fld hT ga0 hap wH11584 (by decide) (TU_ok 112 (by decide) k hk) (TU_ne 0 (by decide) k hk)) (fun k hk => sv_fld hap wH11584 (by decide) (TU_slt k hk) (TU_sne 0 (by decide) k hk)) hg_TU
  have g11588 : WD (avw K H11584 a0) := WD.congr (fun k hk j => av_fld hT ga0 hap wH11584 (by decide) (WD_ok 112 (by decide) k hk) (WD_ne 0 (by decide) k hk)) hg_WD
  have g11589 : IM (avw K H11584 a0) := IM.congr (fun k hk j => av_fld hT ga0 hap wH11584 (by decide) (IM_ok 112 (by decide) k hk) (IM_ne 0 (by decide) k hk)) hg_IM
  have f11590 : ∀ j : Nat, bt j = (fI H11584 tq j).toInt := fun j => (f0_bt j).trans (congrArg Int32.toInt (Wr.neI wH11584 (Or.inl (G_ne gtq ga0 (by decide)))).symm)
  have f11591 : ∀ j : Nat, fI H11584 mq j = fI s.heap mq j := fun j => (Wr.neI wH11584 (Or.inl (G_ne gmq ga0 (by decide)))).trans (f0_mo j)
  have m11592 := eoq.trans (Wr.neR wH11584 (Or.inr (x_apart hKT hts inX10 tyX10 tyX10_ok nmX10 rfl 32 0 (by decide) (by decide) (by decide)))).symm
  have m11593 := eaq.trans (Wr.neR wH11584 (Or.inr (x_apart hKT hts inX10 tyX10 tyX10_ok nmX10 rfl 33 0 (by decide) (by decide) (by decide)))).symm
  have m11594 := ef9.trans (Wr.neR wH11584 (Or.inr (x_apart hKT hts inX10 tyX10 tyX10_ok nmX10 rfl 29 0 (by decide) (by decide) (by decide)))).symm
  have m11595 := ef0.trans (Wr.neR wH11584 (Or.inr (x_apart hKT hts inX10 tyX10 tyX10_ok nmX10 rfl 30 0 (by decide) (by decide) (by decide)))).symm
  have m11596 := ef1.trans (Wr.neR wH11584 (Or.inr (x_apart hKT hts inX10 tyX10 tyX10_ok nmX10 rfl 31 0 (by decide) (by decide) (by decide)))).symm
  have m11597 := emq.trans (Wr.neR wH11584 (Or.inr (x_apart hKT hts inX10 tyX10 tyX10_ok nmX10 rfl 24 0 (by decide) (by decide) (by decide)))).symm
  have m11598 := etq.trans (Wr.neR wH11584 (Or.inr (x_apart hKT hts inX10 tyX10 tyX10_ok nmX10 rfl 17 0 (by decide) (by decide) (by decide)))).symm
  have m11599 := el1.trans (Wr.neR wH11584 (Or.inr (x_apart hKT hts inX10 tyX10 tyX10_ok nmX10 rfl 26 0 (by decide) (by decide) (by decide)))).symm
  have m11600 := el2.trans (Wr.neR wH11584 (Or.inr (x_apart hKT hts inX10 tyX10 tyX10_ok nmX10 rfl 27 0 (by decide) (by decide) (by decide)))).symm
  have m11601 := el3.trans (Wr.neR wH11584 (Or.inr (x_apart hKT hts inX10 tyX10 tyX10_ok nmX10 rfl 28 0 (by decide) (by decide) (by decide)))).symm
  have m11602 := elsq.trans (Wr.neR wH11584 (Or.inr (x_apart hKT hts inX10 tyX10 tyX10_ok nmX10 rfl 25 0 (by decide) (by decide) (by decide)))).symm
  have m11603 := emn.trans (Wr.neI wH11584 (Or.inr (x_apart hKT hts inX10 tyX10 tyX10_ok nmX10 rfl 35 0 (by decide) (by decide) (by decide)))).symm
  have m11604 := etp.trans (Wr.neI wH11584 (Or.inr (x_apart hKT hts inX10 tyX10 tyX10_ok nmX10 rfl 18 0 (by decide) (by decide) (by decide)))).symm
  have m11605 := Wr.I wH11584
  clear eaq ef0 ef1 ef9 el1 el2 el3 elsq emn emq eoq etp etq f0_bt f0_mo mf0
  refine lv_aload_n hx hb dX10_text_5 rfl (lv_at hl 0 rfl) ?_
  refine lv_iconst (v := 0) hx hb dX10_text_6 (by decide) ?_
  refine x_put C hTH11584 hSH11584 (ci := 10) (k := 41) (v := .int 0) (ty0 := tyX10) rfl inX10 tyX10_ok nmX10 (by decide) rfl wF_X10_292 ga0 rg_112 rfl rfl (okI (i_rng (0 : Int32)).1 (i_rng (0 : Int32)).2) rfl rfl (AE_in ga0 (by decide)) dX10_text_7 (fun H11606 locsH11606 hTH11606 hSH11606 wH11606 => ?_)
  have mf11607 : MF K s.heap H11606 a0 [0, 18, 19, 20, 21, 22, 34, 35, 36, 38, 39, 40, 41, 42] := MF.fld hap wH11606 (by decide) (by decide) mf11585
  have g11608 : CG (avw K H11606 a0) := CG.congr (fun k hk j => av_fld hTH11584 ga0 hap wH11606 (by decide) (CG_ok 112 (by decide) k hk) (CG_ne 41 (by decide) k hk)) g11586
  have g11609 : TU (avw K H11606 a0) (svw K H11606 a0) := TU.congr (fun k hk j => av_fld hTH11584 ga0 hap wH11606 (by decide) (TU_ok 112 (by decide) k hk) (TU_ne 41 (by decide) k hk)) (fun k hk => sv_fld hap wH11606 (by decide) (TU_slt k hk) (TU_sne 41 (by decide) k hk)) g11587
  have g11610 : WD (avw K H11606 a0) := WD.congr (fun k hk j => av_fld hTH11584 ga0 hap wH11606 (by decide) (WD_ok 112 (by decide) k hk) (WD_ne 41 (by decide) k hk)) g11588
  have g11611 : IM (avw K H11606 a0) := IM.congr (fun k hk j => av_fld hTH11584 ga0 hap wH11606 (by decide) (IM_ok 112 (by decide) k hk) (IM_ne 41 (by decide) k hk)) g11589
  have f11612 : ∀ j : Nat, bt j = (fI H11606 tq j).toInt := fun j => (f11590 j).trans (congrArg Int32.toInt (Wr.neI wH11606 (Or.inl (G_ne gtq ga0 (by decide)))).symm)
  have f11613 : ∀ j : Nat, fI H11606 mq j = fI s.heap mq j := fun j => (Wr.neI wH11606 (Or.inl (G_ne gmq ga0 (by decide)))).trans (f11591 j)
  have m11614 := m11592.trans (Wr.neR wH11606 (Or.inr (x_apart hKT hts inX10 tyX10 tyX10_ok nmX10 rfl 32 41 (by decide) (by decide) (by decide)))).symm
  have m11615 := m11593.trans (Wr.neR wH11606 (Or.inr (x_apart hKT hts inX10 tyX10 tyX10_ok nmX10 rfl 33 41 (by decide) (by decide) (by decide)))).symm
  have m11616 := m11594.trans (Wr.neR wH11606 (Or.inr (x_apart hKT hts inX10 tyX10 tyX10_ok nmX10 rfl 29 41 (by decide) (by decide) (by decide)))).symm
  have m11617 := m11595.trans (Wr.neR wH11606 (Or.inr (x_apart hKT hts inX10 tyX10 tyX10_ok nmX10 rfl 30 41 (by decide) (by decide) (by decide)))).symm
  have m11618 := m11596.trans (Wr.neR wH11606 (Or.inr (x_apart hKT hts inX10 tyX10 tyX10_ok nmX10 rfl 31 41 (by decide) (by decide) (by decide)))).symm
  have m11619 := m11597.trans (Wr.neR wH11606 (Or.inr (x_apart hKT hts inX10 tyX10 tyX10_ok nmX10 rfl 24 41 (by decide) (by decide) (by decide)))).symm
  have m11620 := m11598.trans (Wr.neR wH11606 (Or.inr (x_apart hKT hts inX10 tyX10 tyX10_ok nmX10 rfl 17 41 (by decide) (by decide) (by decide)))).symm
  have m11621 := m11599.trans (Wr.neR wH11606 (Or.inr (x_apart hKT hts inX10 tyX10 tyX10_ok nmX10 rfl 26 41 (by decide) (by decide) (by decide)))).symm
  have m11622 := m11600.trans (Wr.neR wH11606 (Or.inr (x_apart hKT hts inX10 tyX10 tyX10_ok nmX10 rfl 27 41 (by decide) (by decide) (by decide)))).symm
  have m11623 := m11601.trans (Wr.neR wH11606 (Or.inr (x_apart hKT hts inX10 tyX10 tyX10_ok nmX10 rfl 28 41 (by decide) (by decide) (by decide)))).symm
  have m11624 := m11602.trans (Wr.neR wH11606 (Or.inr (x_apart hKT hts inX10 tyX10 tyX10_ok nmX10 rfl 25 41 (by decide) (by decide) (by decide)))).symm
  have m11625 := m11603.trans (Wr.neI wH11606 (Or.inr (x_apart hKT hts inX10 tyX10 tyX10_ok nmX10 rfl 35 41 (by decide) (by decide) (by decide)))).symm
  have m11626 := m11604.trans (Wr.neI wH11606 (Or.inr (x_apart hKT hts inX10 tyX10 tyX10_ok nmX10 rfl 18 41 (by decide) (by decide) (by decide)))).symm
  have m11627 := (Wr.neI wH11606 (Or.inr (x_apart hKT hts inX10 tyX10 tyX10_ok nmX10 rfl 0 41 (by decide) (by decide) (by decide)))).trans m11605
  have m11628 := Wr.I wH11606
  clear f11590 f11591 g11586 g11587 g11588 g11589 hTH11584 m11592 m11593 m11594 m11595 m11596 m11597 m11598 m11599 m11600 m11601 m11602 m11603 m11604 m11605 mf11585
  refine lv_aload_n hx hb dX10_text_10 rfl (lv_at hl 0 rfl) ?_
  refine lv_iconst (v := (-1)) hx hb dX10_text_11 (by decide) ?_
  refine x_put C hTH11606 hSH11606 (ci := 10) (k := 42) (v := .int (-1)) (ty0 := tyX10) rfl inX10 tyX10_ok nmX10 (by decide) rfl wF_X10_92 ga0 rg_112 rfl rfl (okI (i_rng ((-1) : Int32)).1 (i_rng ((-1) : Int32)).2) rfl rfl (AE_in ga0 (by decide)) dX10_text_12 (fun H11629 locsH11629 hTH11629 hSH11629 wH11629 => ?_)
  have mf11630 : MF K s.heap H11629 a0 [0, 18, 19, 20, 21, 22, 34, 35, 36, 38, 39, 40, 41, 42] := MF.fld hap wH11629 (by decide) (by decide) mf11607
  have g11631 : CG (avw K H11629 a0) := CG.congr (fun k hk j => av_fld hTH11606 ga0 hap wH11629 (by decide) (CG_ok 112 (by decide) k hk) (CG_ne 42 (by decide) k hk)) g11608
  have g11632 : TU (avw K H11629 a0) (svw K H11629 a0) := TU.congr (fun k hk j => av_fld hTH11606 ga0 hap wH11629 (by decide) (TU_ok 112 (by decide) k hk) (TU_ne 42 (by decide) k hk)) (fun k hk => sv_fld hap wH11629 (by decide) (TU_slt k hk) (TU_sne 42 (by decide) k hk)) g11609
  have g11633 : WD (avw K H11629 a0) := WD.congr (fun k hk j => av_fld hTH11606 ga0 hap wH11629 (by decide) (WD_ok 112 (by decide) k hk) (WD_ne 42 (by decide) k hk)) g11610
  have g11634 : IM (avw K H11629 a0) := IM.congr (fun k hk j => av_fld hTH11606 ga0 hap wH11629 (by decide) (IM_ok 112 (by decide) k hk) (IM_ne 42 (by decide) k hk)) g11611
  have f11635 : ∀ j : Nat, bt j = (fI H11629 tq j).toInt := fun j => (f11612 j).trans (congrArg Int32.toInt (Wr.neI wH11629 (Or.inl (G_ne gtq ga0 (by decide)))).symm)
  have f11636 : ∀ j : Nat, fI H11629 mq j = fI s.heap mq j := fun j => (Wr.neI wH11629 (Or.inl (G_ne gmq ga0 (by decide)))).trans (f11613 j)
  have m11637 := m11614.trans (Wr.neR wH11629 (Or.inr (x_apart hKT hts inX10 tyX10 tyX10_ok nmX10 rfl 32 42 (by decide) (by decide) (by decide)))).symm
  have m11638 := m11615.trans (Wr.neR wH11629 (Or.inr (x_apart hKT hts inX10 tyX10 tyX10_ok nmX10 rfl 33 42 (by decide) (by decide) (by decide)))).symm
  have m11639 := m11616.trans (Wr.neR wH11629 (Or.inr (x_apart hKT hts inX10 tyX10 tyX10_ok nmX10 rfl 29 42 (by decide) (by decide) (by decide)))).symm
  have m11640 := m11617.trans (Wr.neR wH11629 (Or.inr (x_apart hKT hts inX10 tyX10 tyX10_ok nmX10 rfl 30 42 (by decide) (by decide) (by decide)))).symm
  have m11641 := m11618.trans (Wr.neR wH11629 (Or.inr (x_apart hKT hts inX10 tyX10 tyX10_ok nmX10 rfl 31 42 (by decide) (by decide) (by decide)))).symm
  have m11642 := m11619.trans (Wr.neR wH11629 (Or.inr (x_apart hKT hts inX10 tyX10 tyX10_ok nmX10 rfl 24 42 (by decide) (by decide) (by decide)))).symm
  have m11643 := m11620.trans (Wr.neR wH11629 (Or.inr (x_apart hKT hts inX10 tyX10 tyX10_ok nmX10 rfl 17 42 (by decide) (by decide) (by decide)))).symm
  have m11644 := m11621.trans (Wr.neR wH11629 (Or.inr (x_apart hKT hts inX10 tyX10 tyX10_ok nmX10 rfl 26 42 (by decide) (by decide) (by decide)))).symm
  have m11645 := m11622.trans (Wr.neR wH11629 (Or.inr (x_apart hKT hts inX10 tyX10 tyX10_ok nmX10 rfl 27 42 (by decide) (by decide) (by decide)))).symm
  have m11646 := m11623.trans (Wr.neR wH11629 (Or.inr (x_apart hKT hts inX10 tyX10 tyX10_ok nmX10 rfl 28 42 (by decide) (by decide) (by decide)))).symm
  have m11647 := m11624.trans (Wr.neR wH11629 (Or.inr (x_apart hKT hts inX10 tyX10 tyX10_ok nmX10 rfl 25 42 (by decide) (by decide) (by decide)))).symm
  have m11648 := m11625.trans (Wr.neI wH11629 (Or.inr (x_apart hKT hts inX10 tyX10 tyX10_ok nmX10 rfl 35 42 (by decide) (by decide) (by decide)))).symm
  have m11649 := m11626.trans (Wr.neI wH11629 (Or.inr (x_apart hKT hts inX10 tyX10 tyX10_ok nmX10 rfl 18 42 (by decide) (by decide) (by decide)))).symm
  have m11650 := (Wr.neI wH11629 (Or.inr (x_apart hKT hts inX10 tyX10 tyX10_ok nmX10 rfl 0 42 (by decide) (by decide) (by decide)))).trans m11627
  have m11651 := (Wr.neI wH11629 (Or.inr (x_apart hKT hts inX10 tyX10 tyX10_ok nmX10 rfl 41 42 (by decide) (by decide) (by decide)))).trans m11628
  have m11652 := Wr.I wH11629
  clear f11612 f11613 g11608 g11609 g11610 g11611 hTH11606 m11614 m11615 m11616 m11617 m11618 m11619 m11620 m11621 m11622 m11623 m11624 m11625 m11626 m11627 m11628 mf11607
  refine lv_iload_n hx hb dX10_text_15 rfl (lv_at hl 1 rfl) ?_
  refine lv_if_ne (tgt := 29) hx hb dX10_text_16 (by decide) (fun c11653 => ?_) (fun c11653 => ?_)
  · have k11654 := i_ne c11653
    exfalso
    omega
  · have k11654 := i_eq c11653
    refine lv_aload_n hx hb dX10_text_19 rfl (lv_at hl 0 rfl) ?_
    refine lv_iload_n hx hb dX10_text_20 rfl (lv_at hl 2 rfl) ?_
    refine lv_iconst (v := 0) hx hb dX10_text_21 (by decide) ?_
    refine lv_iconst (v := 1) hx hb dX10_text_22 (by decide) ?_
    refine x_V (As := [.int x2, .int 0, .int 1]) (rest := []) C (c_X10_isIn l K G H11629 (x2) (0) (1) hTH11629 ga0) yo_X10_isIn wM_X10_177 ⟨⟨by decide, by decide⟩, by decide, by decide⟩ (x_rv C hTH11629 (ci := 10) rfl ga0 rg_112) rfl hl.1 rfl (Nat.le_of_ble_eq_true rfl) dX10_text_23 hSH11629 (AE_sub (fun _ _ => rfl) (by decide) hSH11629.1) (fun vH11655 H11655 locsH11655 pH11655 zH11655 kH11655 hSH11655 => ?_)
    have hqH11655 := pH11655.1.symm
    subst hqH11655
    rcases pH11655.2 with ⟨hvH11655, hcH11655⟩ | ⟨hvH11655, hcH11655⟩
    · subst hvH11655
      refine W.eq (g2 := F0 m 26 ls [.int 1]) rfl ?_
      refine lv_if_ne (tgt := 44) hx hb dX10_text_26 (by decide) (fun c11656 => ?_) (fun c11656 => ?_)
      · have k11657 := i_ne c11656
        refine lv_iconst (v := 1) hx hb dX10_text_44 (by decide) ?_
        refine lv_goto (tgt := 49) hx hb dX10_text_45 (by decide) ?_
        refine lv_istore_n (lv' := [(3, .int 1), (0, .ref a0), (1, .int x1), (2, .int x2)]) hx hb dX10_text_49 rfl hl (by decide) rfl (fun ls11658 hl11659 => ?_)
        refine lv_aload_n hx hb dX10_text_50 rfl (lv_at hl11659 1 rfl) ?_
        refine lv_iload_n hx hb dX10_text_51 rfl (lv_at hl11659 2 rfl) ?_
        refine lv_iconst (v := 1) hx hb dX10_text_52 (by decide) ?_
        refine lv_icmp_ne (tgt := 60) hx hb dX10_text_53 (by decide) (fun c11660 => ?_) (fun c11660 => ?_)
        · have k11661 := i_ne c11660
          refine lv_iconst (v := 0) hx hb dX10_text_60 (by decide) ?_
          refine x_put C hTH11629 hSH11655 (ci := 10) (k := 34) (v := .int 0) (ty0 := tyX10) rfl inX10 tyX10_ok nmX10 (by decide) rfl wF_X10_231 ga0 rg_112 rfl rfl (okI (by have := i_rng (0 : Int32); omega) (by have := i_rng (0 : Int32); omega)) rfl rfl (AE_in ga0 (by decide)) dX10_text_61 (fun H11662 locsH11662 hTH11662 hSH11662 wH11662 => ?_)
          have mf11663 : MF K s.heap H11662 a0 [0, 18, 19, 20, 21, 22, 34, 35, 36, 38, 39, 40, 41, 42] := MF.fld hap wH11662 (by decide) (by decide) mf11630
          have g11664 : CG (avw K H11662 a0) := CG.congr (fun k hk j => av_fld hTH11629 ga0 hap wH11662 (by decide) (CG_ok 112 (by decide) k hk) (CG_ne 34 (by decide) k hk)) g11631
          have g11665 : TU (avw K H11662 a0) (svw K H11662 a0) := TU.congr (fun k hk j => av_fld hTH11629 ga0 hap wH11662 (by decide) (TU_ok 112 (by decide) k hk) (TU_ne 34 (by decide) k hk)) (fun k hk => sv_fld hap wH11662 (by decide) (TU_slt k hk) (TU_sne 34 (by decide) k hk)) g11632
          have g11666 : WD (avw K H11662 a0) := WD.congr (fun k hk j => av_fld hTH11629 ga0 hap wH11662 (by decide) (WD_ok 112 (by decide) k hk) (WD_ne 34 (by decide) k hk)) g11633
          have g11667 : IM (avw K H11662 a0) := IM.congr (fun k hk j => av_fld hTH11629 ga0 hap wH11662 (by decide) (IM_ok 112 (by decide) k hk) (IM_ne 34 (by decide) k hk)) g11634
          have f11668 : ∀ j : Nat, bt j = (fI H11662 tq j).toInt := fun j => (f11635 j).trans (congrArg Int32.toInt (Wr.neI wH11662 (Or.inl (G_ne gtq ga0 (by decide)))).symm)
          have f11669 : ∀ j : Nat, fI H11662 mq j = fI s.heap mq j := fun j => (Wr.neI wH11662 (Or.inl (G_ne gmq ga0 (by decide)))).trans (f11636 j)
          have m11670 := m11637.trans (Wr.neR wH11662 (Or.inr (x_apart hKT hts inX10 tyX10 tyX10_ok nmX10 rfl 32 34 (by decide) (by decide) (by decide)))).symm
          have m11671 := m11638.trans (Wr.neR wH11662 (Or.inr (x_apart hKT hts inX10 tyX10 tyX10_ok nmX10 rfl 33 34 (by decide) (by decide) (by decide)))).symm
          have m11672 := m11639.trans (Wr.neR wH11662 (Or.inr (x_apart hKT hts inX10 tyX10 tyX10_ok nmX10 rfl 29 34 (by decide) (by decide) (by decide)))).symm
          have m11673 := m11640.trans (Wr.neR wH11662 (Or.inr (x_apart hKT hts inX10 tyX10 tyX10_ok nmX10 rfl 30 34 (by decide) (by decide) (by decide)))).symm
          have m11674 := m11641.trans (Wr.neR wH11662 (Or.inr (x_apart hKT hts inX10 tyX10 tyX10_ok nmX10 rfl 31 34 (by decide) (by decide) (by decide)))).symm
          have m11675 := m11642.trans (Wr.neR wH11662 (Or.inr (x_apart hKT hts inX10 tyX10 tyX10_ok nmX10 rfl 24 34 (by decide) (by decide) (by decide)))).symm
          have m11676 := m11643.trans (Wr.neR wH11662 (Or.inr (x_apart hKT hts inX10 tyX10 tyX10_ok nmX10 rfl 17 34 (by decide) (by decide) (by decide)))).symm
          have m11677 := m11644.trans (Wr.neR wH11662 (Or.inr (x_apart hKT hts inX10 tyX10 tyX10_ok nmX10 rfl 26 34 (by decide) (by decide) (by decide)))).symm
          have m11678 := m11645.trans (Wr.neR wH11662 (Or.inr (x_apart hKT hts inX10 tyX10 tyX10_ok nmX10 rfl 27 34 (by decide) (by decide) (by decide)))).symm
          have m11679 := m11646.trans (Wr.neR wH11662 (Or.inr (x_apart hKT hts inX10 tyX10 tyX10_ok nmX10 rfl 28 34 (by decide) (by decide) (by decide)))).symm
          have m11680 := m11647.trans (Wr.neR wH11662 (Or.inr (x_apart hKT hts inX10 tyX10 tyX10_ok nmX10 rfl 25 34 (by decide) (by decide) (by decide)))).symm
          have m11681 := m11648.trans (Wr.neI wH11662 (Or.inr (x_apart hKT hts inX10 tyX10 tyX10_ok nmX10 rfl 35 34 (by decide) (by decide) (by decide)))).symm
          have m11682 := m11649.trans (Wr.neI wH11662 (Or.inr (x_apart hKT hts inX10 tyX10 tyX10_ok nmX10 rfl 18 34 (by decide) (by decide) (by decide)))).symm
          have m11683 := (Wr.neI wH11662 (Or.inr (x_apart hKT hts inX10 tyX10 tyX10_ok nmX10 rfl 0 34 (by decide) (by decide) (by decide)))).trans m11650
          have m11684 := (Wr.neI wH11662 (Or.inr (x_apart hKT hts inX10 tyX10 tyX10_ok nmX10 rfl 41 34 (by decide) (by decide) (by decide)))).trans m11651
          have m11685 := (Wr.neI wH11662 (Or.inr (x_apart hKT hts inX10 tyX10 tyX10_ok nmX10 rfl 42 34 (by decide) (by decide) (by decide)))).trans m11652
          have m11686 := Wr.I wH11662
          clear f11635 f11636 g11631 g11632 g11633 g11634 hTH11629 m11637 m11638 m11639 m11640 m11641 m11642 m11643 m11644 m11645 m11646 m11647 m11648 m11649 m11650 m11651 m11652 mf11630
          refine lv_aload_n hx hb dX10_text_64 rfl (lv_at hl11659 1 rfl) ?_
          refine lv_iconst (v := 0) hx hb dX10_text_65 (by decide) ?_
          refine x_put C hTH11662 hSH11662 (ci := 10) (k := 19) (v := .int 0) (ty0 := tyX10) rfl inX10 tyX10_ok nmX10 (by decide) rfl wF_X10_192 ga0 rg_112 rfl rfl (okI (by have := i_rng (0 : Int32); omega) (by have := i_rng (0 : Int32); omega)) rfl rfl (AE_in ga0 (by decide)) dX10_text_66 (fun H11687 locsH11687 hTH11687 hSH11687 wH11687 => ?_)
          have mf11688 : MF K s.heap H11687 a0 [0, 18, 19, 20, 21, 22, 34, 35, 36, 38, 39, 40, 41, 42] := MF.fld hap wH11687 (by decide) (by decide) mf11663
          have g11689 : CG (avw K H11687 a0) := CG.congr (fun k hk j => av_fld hTH11662 ga0 hap wH11687 (by decide) (CG_ok 112 (by decide) k hk) (CG_ne 19 (by decide) k hk)) g11664
          have g11690 : TU (avw K H11687 a0) (svw K H11687 a0) := TU.congr (fun k hk j => av_fld hTH11662 ga0 hap wH11687 (by decide) (TU_ok 112 (by decide) k hk) (TU_ne 19 (by decide) k hk)) (fun k hk => sv_fld hap wH11687 (by decide) (TU_slt k hk) (TU_sne 19 (by decide) k hk)) g11665
          have g11691 : WD (avw K H11687 a0) := WD.congr (fun k hk j => av_fld hTH11662 ga0 hap wH11687 (by decide) (WD_ok 112 (by decide) k hk) (WD_ne 19 (by decide) k hk)) g11666
          have g11692 : IM (avw K H11687 a0) := IM.congr (fun k hk j => av_fld hTH11662 ga0 hap wH11687 (by decide) (IM_ok 112 (by decide) k hk) (IM_ne 19 (by decide) k hk)) g11667
          have f11693 : ∀ j : Nat, bt j = (fI H11687 tq j).toInt := fun j => (f11668 j).trans (congrArg Int32.toInt (Wr.neI wH11687 (Or.inl (G_ne gtq ga0 (by decide)))).symm)
          have f11694 : ∀ j : Nat, fI H11687 mq j = fI s.heap mq j := fun j => (Wr.neI wH11687 (Or.inl (G_ne gmq ga0 (by decide)))).trans (f11669 j)
          have m11695 := m11670.trans (Wr.neR wH11687 (Or.inr (x_apart hKT hts inX10 tyX10 tyX10_ok nmX10 rfl 32 19 (by decide) (by decide) (by decide)))).symm
          have m11696 := m11671.trans (Wr.neR wH11687 (Or.inr (x_apart hKT hts inX10 tyX10 tyX10_ok nmX10 rfl 33 19 (by decide) (by decide) (by decide)))).symm
          have m11697 := m11672.trans (Wr.neR wH11687 (Or.inr (x_apart hKT hts inX10 tyX10 tyX10_ok nmX10 rfl 29 19 (by decide) (by decide) (by decide)))).symm
          have m11698 := m11673.trans (Wr.neR wH11687 (Or.inr (x_apart hKT hts inX10 tyX10 tyX10_ok nmX10 rfl 30 19 (by decide) (by decide) (by decide)))).symm
          have m11699 := m11674.trans (Wr.neR wH11687 (Or.inr (x_apart hKT hts inX10 tyX10 tyX10_ok nmX10 rfl 31 19 (by decide) (by decide) (by decide)))).symm
          have m11700 := m11675.trans (Wr.neR wH11687 (Or.inr (x_apart hKT hts inX10 tyX10 tyX10_ok nmX10 rfl 24 19 (by decide) (by decide) (by decide)))).symm
          have m11701 := m11676.trans (Wr.neR wH11687 (Or.inr (x_apart hKT hts inX10 tyX10 tyX10_ok nmX10 rfl 17 19 (by decide) (by decide) (by decide)))).symm
          have m11702 := m11677.trans (Wr.neR wH11687 (Or.inr (x_apart hKT hts inX10 tyX10 tyX10_ok nmX10 rfl 26 19 (by decide) (by decide) (by decide)))).symm
          have m11703 := m11678.trans (Wr.neR wH11687 (Or.inr (x_apart hKT hts inX10 tyX10 tyX10_ok nmX10 rfl 27 19 (by decide) (by decide) (by decide)))).symm
          have m11704 := m11679.trans (Wr.neR wH11687 (Or.inr (x_apart hKT hts inX10 tyX10 tyX10_ok nmX10 rfl 28 19 (by decide) (by decide) (by decide)))).symm
          have m11705 := m11680.trans (Wr.neR wH11687 (Or.inr (x_apart hKT hts inX10 tyX10 tyX10_ok nmX10 rfl 25 19 (by decide) (by decide) (by decide)))).symm
          have m11706 := m11681.trans (Wr.neI wH11687 (Or.inr (x_apart hKT hts inX10 tyX10 tyX10_ok nmX10 rfl 35 19 (by decide) (by decide) (by decide)))).symm
          have m11707 := m11682.trans (Wr.neI wH11687 (Or.inr (x_apart hKT hts inX10 tyX10 tyX10_ok nmX10 rfl 18 19 (by decide) (by decide) (by decide)))).symm
          have m11708 := (Wr.neI wH11687 (Or.inr (x_apart hKT hts inX10 tyX10 tyX10_ok nmX10 rfl 0 19 (by decide) (by decide) (by decide)))).trans m11683
          have m11709 := (Wr.neI wH11687 (Or.inr (x_apart hKT hts inX10 tyX10 tyX10_ok nmX10 rfl 41 19 (by decide) (by decide) (by decide)))).trans m11684
          have m11710 := (Wr.neI wH11687 (Or.inr (x_apart hKT hts inX10 tyX10 tyX10_ok nmX10 rfl 42 19 (by decide) (by decide) (by decide)))).trans m11685
          have m11711 := (Wr.neI wH11687 (Or.inr (x_apart hKT hts inX10 tyX10 tyX10_ok nmX10 rfl 34 19 (by decide) (by decide) (by decide)))).trans m11686
          have m11712 := Wr.I wH11687
          clear f11668 f11669 g11664 g11665 g11666 g11667 hTH11662 m11670 m11671 m11672 m11673 m11674 m11675 m11676 m11677 m11678 m11679 m11680 m11681 m11682 m11683 m11684 m11685 m11686 mf11663
          refine lv_aload_n hx hb dX10_text_69 rfl (lv_at hl11659 1 rfl) ?_
          refine lv_iconst (v := 0) hx hb dX10_text_70 (by decide) ?_
          refine x_put C hTH11687 hSH11687 (ci := 10) (k := 35) (v := .int 0) (ty0 := tyX10) rfl inX10 tyX10_ok nmX10 (by decide) rfl wF_X10_228 ga0 rg_112 rfl rfl (okI (by have := i_rng (0 : Int32); omega) (by have := i_rng (0 : Int32); omega)) rfl rfl (AE_in ga0 (by decide)) dX10_text_71 (fun H11713 locsH11713 hTH11713 hSH11713 wH11713 => ?_)
          have mf11714 : MF K s.heap H11713 a0 [0, 18, 19, 20, 21, 22, 34, 35, 36, 38, 39, 40, 41, 42] := MF.fld hap wH11713 (by decide) (by decide) mf11688
          have g11715 : CG (avw K H11713 a0) := CG.congr (fun k hk j => av_fld hTH11687 ga0 hap wH11713 (by decide) (CG_ok 112 (by decide) k hk) (CG_ne 35 (by decide) k hk)) g11689
          have g11716 : TU (avw K H11713 a0) (svw K H11713 a0) := TU.congr (fun k hk j => av_fld hTH11687 ga0 hap wH11713 (by decide) (TU_ok 112 (by decide) k hk) (TU_ne 35 (by decide) k hk)) (fun k hk => sv_fld hap wH11713 (by decide) (TU_slt k hk) (TU_sne 35 (by decide) k hk)) g11690
          have g11717 : WD (avw K H11713 a0) := WD.congr (fun k hk j => av_fld hTH11687 ga0 hap wH11713 (by decide) (WD_ok 112 (by decide) k hk) (WD_ne 35 (by decide) k hk)) g11691
          have g11718 : IM (avw K H11713 a0) := IM.congr (fun k hk j => av_fld hTH11687 ga0 hap wH11713 (by decide) (IM_ok 112 (by decide) k hk) (IM_ne 35 (by decide) k hk)) g11692
          have f11719 : ∀ j : Nat, bt j = (fI H11713 tq j).toInt := fun j => (f11693 j).trans (congrArg Int32.toInt (Wr.neI wH11713 (Or.inl (G_ne gtq ga0 (by decide)))).symm)
          have f11720 : ∀ j : Nat, fI H11713 mq j = fI s.heap mq j := fun j => (Wr.neI wH11713 (Or.inl (G_ne gmq ga0 (by decide)))).trans (f11694 j)
          have m11721 := m11695.trans (Wr.neR wH11713 (Or.inr (x_apart hKT hts inX10 tyX10 tyX10_ok nmX10 rfl 32 35 (by decide) (by decide) (by decide)))).symm
          have m11722 := m11696.trans (Wr.neR wH11713 (Or.inr (x_apart hKT hts inX10 tyX10 tyX10_ok nmX10 rfl 33 35 (by decide) (by decide) (by decide)))).symm
          have m11723 := m11697.trans (Wr.neR wH11713 (Or.inr (x_apart hKT hts inX10 tyX10 tyX10_ok nmX10 rfl 29 35 (by decide) (by decide) (by decide)))).symm
          have m11724 := m11698.trans (Wr.neR wH11713 (Or.inr (x_apart hKT hts inX10 tyX10 tyX10_ok nmX10 rfl 30 35 (by decide) (by decide) (by decide)))).symm
          have m11725 := m11699.trans (Wr.neR wH11713 (Or.inr (x_apart hKT hts inX10 tyX10 tyX10_ok nmX10 rfl 31 35 (by decide) (by decide) (by decide)))).symm
          have m11726 := m11700.trans (Wr.neR wH11713 (Or.inr (x_apart hKT hts inX10 tyX10 tyX10_ok nmX10 rfl 24 35 (by decide) (by decide) (by decide)))).symm
          have m11727 := m11701.trans (Wr.neR wH11713 (Or.inr (x_apart hKT hts inX10 tyX10 tyX10_ok nmX10 rfl 17 35 (by decide) (by decide) (by decide)))).symm
          have m11728 := m11702.trans (Wr.neR wH11713 (Or.inr (x_apart hKT hts inX10 tyX10 tyX10_ok nmX10 rfl 26 35 (by decide) (by decide) (by decide)))).symm
          have m11729 := m11703.trans (Wr.neR wH11713 (Or.inr (x_apart hKT hts inX10 tyX10 tyX10_ok nmX10 rfl 27 35 (by decide) (by decide) (by decide)))).symm
          have m11730 := m11704.trans (Wr.neR wH11713 (Or.inr (x_apart hKT hts inX10 tyX10 tyX10_ok nmX10 rfl 28 35 (by decide) (by decide) (by decide)))).symm
          have m11731 := m11705.trans (Wr.neR wH11713 (Or.inr (x_apart hKT hts inX10 tyX10 tyX10_ok nmX10 rfl 25 35 (by decide) (by decide) (by decide)))).symm
          have m11733 := m11707.trans (Wr.neI wH11713 (Or.inr (x_apart hKT hts inX10 tyX10 tyX10_ok nmX10 rfl 18 35 (by decide) (by decide) (by decide)))).symm
          have m11734 := (Wr.neI wH11713 (Or.inr (x_apart hKT hts inX10 tyX10 tyX10_ok nmX10 rfl 0 35 (by decide) (by decide) (by decide)))).trans m11708
          have m11735 := (Wr.neI wH11713 (Or.inr (x_apart hKT hts inX10 tyX10 tyX10_ok nmX10 rfl 41 35 (by decide) (by decide) (by decide)))).trans m11709
          have m11736 := (Wr.neI wH11713 (Or.inr (x_apart hKT hts inX10 tyX10 tyX10_ok nmX10 rfl 42 35 (by decide) (by decide) (by decide)))).trans m11710
          have m11737 := (Wr.neI wH11713 (Or.inr (x_apart hKT hts inX10 tyX10 tyX10_ok nmX10 rfl 34 35 (by decide) (by decide) (by decide)))).trans m11711
          have m11738 := (Wr.neI wH11713 (Or.inr (x_apart hKT hts inX10 tyX10 tyX10_ok nmX10 rfl 19 35 (by decide) (by decide) (by decide)))).trans m11712
          have m11739 := Wr.I wH11713
          clear f11693 f11694 g11689 g11690 g11691 g11692 hTH11687 m11695 m11696 m11697 m11698 m11699 m11700 m11701 m11702 m11703 m11704 m11705 m11706 m11707 m11708 m11709 m11710 m11711 m11712 mf11688
          refine lv_aload_n hx hb dX10_text_74 rfl (lv_at hl11659 1 rfl) ?_
          refine lv_iconst (v := 0) hx hb dX10_text_75 (by decide) ?_
          refine x_put C hTH11713 hSH11713 (ci := 10) (k := 36) (v := .int 0) (ty0 := tyX10) rfl inX10 tyX10_ok nmX10 (by decide) rfl wF_X10_261 ga0 rg_112 rfl rfl (okI (by have := i_rng (0 : Int32); omega) (by have := i_rng (0 : Int32); omega)) rfl rfl (AE_in ga0 (by decide)) dX10_text_76 (fun H11740 locsH11740 hTH11740 hSH11740 wH11740 => ?_)
          have mf11741 : MF K s.heap H11740 a0 [0, 18, 19, 20, 21, 22, 34, 35, 36, 38, 39, 40, 41, 42] := MF.fld hap wH11740 (by decide) (by decide) mf11714
          have g11742 : CG (avw K H11740 a0) := CG.congr (fun k hk j => av_fld hTH11713 ga0 hap wH11740 (by decide) (CG_ok 112 (by decide) k hk) (CG_ne 36 (by decide) k hk)) g11715
          have g11743 : TU (avw K H11740 a0) (svw K H11740 a0) := TU.congr (fun k hk j => av_fld hTH11713 ga0 hap wH11740 (by decide) (TU_ok 112 (by decide) k hk) (TU_ne 36 (by decide) k hk)) (fun k hk => sv_fld hap wH11740 (by decide) (TU_slt k hk) (TU_sne 36 (by decide) k hk)) g11716
          have g11744 : WD (avw K H11740 a0) := WD.congr (fun k hk j => av_fld hTH11713 ga0 hap wH11740 (by decide) (WD_ok 112 (by decide) k hk) (WD_ne 36 (by decide) k hk)) g11717
          have g11745 : IM (avw K H11740 a0) := IM.congr (fun k hk j => av_fld hTH11713 ga0 hap wH11740 (by decide) (IM_ok 112 (by decide) k hk) (IM_ne 36 (by decide) k hk)) g11718
          have f11746 : ∀ j : Nat, bt j = (fI H11740 tq j).toInt := fun j => (f11719 j).trans (congrArg Int32.toInt (Wr.neI wH11740 (Or.inl (G_ne gtq ga0 (by decide)))).symm)
          have f11747 : ∀ j : Nat, fI H11740 mq j = fI s.heap mq j := fun j => (Wr.neI wH11740 (Or.inl (G_ne gmq ga0 (by decide)))).trans (f11720 j)
          have m11748 := m11721.trans (Wr.neR wH11740 (Or.inr (x_apart hKT hts inX10 tyX10 tyX10_ok nmX10 rfl 32 36 (by decide) (by decide) (by decide)))).symm
          have m11749 := m11722.trans (Wr.neR wH11740 (Or.inr (x_apart hKT hts inX10 tyX10 tyX10_ok nmX10 rfl 33 36 (by decide) (by decide) (by decide)))).symm
          have m11750 := m11723.trans (Wr.neR wH11740 (Or.inr (x_apart hKT hts inX10 tyX10 tyX10_ok nmX10 rfl 29 36 (by decide) (by decide) (by decide)))).symm
          have m11751 := m11724.trans (Wr.neR wH11740 (Or.inr (x_apart hKT hts inX10 tyX10 tyX10_ok nmX10 rfl 30 36 (by decide) (by decide) (by decide)))).symm
          have m11752 := m11725.trans (Wr.neR wH11740 (Or.inr (x_apart hKT hts inX10 tyX10 tyX10_ok nmX10 rfl 31 36 (by decide) (by decide) (by decide)))).symm
          have m11753 := m11726.trans (Wr.neR wH11740 (Or.inr (x_apart hKT hts inX10 tyX10 tyX10_ok nmX10 rfl 24 36 (by decide) (by decide) (by decide)))).symm
          have m11754 := m11727.trans (Wr.neR wH11740 (Or.inr (x_apart hKT hts inX10 tyX10 tyX10_ok nmX10 rfl 17 36 (by decide) (by decide) (by decide)))).symm
          have m11755 := m11728.trans (Wr.neR wH11740 (Or.inr (x_apart hKT hts inX10 tyX10 tyX10_ok nmX10 rfl 26 36 (by decide) (by decide) (by decide)))).symm
          have m11756 := m11729.trans (Wr.neR wH11740 (Or.inr (x_apart hKT hts inX10 tyX10 tyX10_ok nmX10 rfl 27 36 (by decide) (by decide) (by decide)))).symm
          have m11757 := m11730.trans (Wr.neR wH11740 (Or.inr (x_apart hKT hts inX10 tyX10 tyX10_ok nmX10 rfl 28 36 (by decide) (by decide) (by decide)))).symm
          have m11758 := m11731.trans (Wr.neR wH11740 (Or.inr (x_apart hKT hts inX10 tyX10 tyX10_ok nmX10 rfl 25 36 (by decide) (by decide) (by decide)))).symm
          have m11759 := m11733.trans (Wr.neI wH11740 (Or.inr (x_apart hKT hts inX10 tyX10 tyX10_ok nmX10 rfl 18 36 (by decide) (by decide) (by decide)))).symm
          have m11760 := (Wr.neI wH11740 (Or.inr (x_apart hKT hts inX10 tyX10 tyX10_ok nmX10 rfl 0 36 (by decide) (by decide) (by decide)))).trans m11734
          have m11761 := (Wr.neI wH11740 (Or.inr (x_apart hKT hts inX10 tyX10 tyX10_ok nmX10 rfl 41 36 (by decide) (by decide) (by decide)))).trans m11735
          have m11762 := (Wr.neI wH11740 (Or.inr (x_apart hKT hts inX10 tyX10 tyX10_ok nmX10 rfl 42 36 (by decide) (by decide) (by decide)))).trans m11736
          have m11763 := (Wr.neI wH11740 (Or.inr (x_apart hKT hts inX10 tyX10 tyX10_ok nmX10 rfl 34 36 (by decide) (by decide) (by decide)))).trans m11737
          have m11764 := (Wr.neI wH11740 (Or.inr (x_apart hKT hts inX10 tyX10 tyX10_ok nmX10 rfl 19 36 (by decide) (by decide) (by decide)))).trans m11738
          have m11765 := (Wr.neI wH11740 (Or.inr (x_apart hKT hts inX10 tyX10 tyX10_ok nmX10 rfl 35 36 (by decide) (by decide) (by decide)))).trans m11739
          have m11766 := Wr.I wH11740
          clear f11719 f11720 g11715 g11716 g11717 g11718 hTH11713 m11721 m11722 m11723 m11724 m11725 m11726 m11727 m11728 m11729 m11730 m11731 m11733 m11734 m11735 m11736 m11737 m11738 m11739 mf11714
          refine lv_aload_n hx hb dX10_text_79 rfl (lv_at hl11659 1 rfl) ?_
          obtain ⟨x11767, ex11767⟩ : ∃ z : Int32, z = fI H11740 a0 (K.1.2 10 20) := ⟨_, rfl⟩
          have bx11767 := ty_fi (x := x11767) (k := 20) ex11767 hTH11740 ga0 rg_112 rfl
          obtain ⟨x11768, ex11768⟩ : ∃ z : Int32, z = fI H11740 a0 (K.1.2 10 21) := ⟨_, rfl⟩
          have bx11768 := ty_fi (x := x11768) (k := 21) ex11768 hTH11740 ga0 rg_112 rfl
          obtain ⟨x11769, ex11769⟩ : ∃ z : Int32, z = fI H11740 a0 (K.1.2 10 22) := ⟨_, rfl⟩
          have bx11769 := ty_fi (x := x11769) (k := 22) ex11769 hTH11740 ga0 rg_112 rfl
          refine x_V (As := []) (rest := []) C (a_X10_reads_e l K G H11740 (0) (x11767) (x11768) (x11769) (tp) bt hTH11740 ga0 gtq m11754 (m11764).symm ex11767 ex11768 ex11769 m11759 g11742 g11743 g11744 g11745 (by omega) (hy1) f11746) yo_X10_reads wM_X10_242 ⟨⟨by decide, by decide⟩, by decide, by decide⟩ (x_rv C hTH11740 (ci := 10) rfl ga0 rg_112) rfl hl11659.1 rfl (Nat.le_of_ble_eq_true rfl) dX10_text_80 hSH11740 (AE_sub (fun _ _ => rfl) (by decide) hSH11740.1) (fun vH11770 H11770 locsH11770 pH11770 zH11770 kH11770 hSH11770 => ?_)
          obtain ⟨x11771, x11772, x11773, x11774, hvH11770, ex11771, ex11772, ex11773, ex11774, hrH11770, m11775, g11776, g11777, g11778, g11779, mf11780, m11781, m11782, m11783, hTH11770⟩ := pH11770
          subst hvH11770
          clear zH11770
          replace m11775 := EQN.mk m11775
          have f11784 : ∀ j : Nat, bt j = (fI H11770 tq j).toInt := fun j => (f11746 j).trans (congrArg Int32.toInt (fI_kept (x_lt hTH11740 kH11770 gtq (by decide))).symm)
          have f11785 : ∀ j : Nat, fI H11770 mq j = fI s.heap mq j := fun j => (fI_kept (x_lt hTH11740 kH11770 gmq (by decide))).trans (f11747 j)
          have m11786 := (m11748).trans (MF.r mf11780 (k := 32) (by decide) (by decide)).symm
          have m11787 := (m11749).trans (MF.r mf11780 (k := 33) (by decide) (by decide)).symm
          have m11788 := (m11750).trans (MF.r mf11780 (k := 29) (by decide) (by decide)).symm
          have m11789 := (m11751).trans (MF.r mf11780 (k := 30) (by decide) (by decide)).symm
          have m11790 := (m11752).trans (MF.r mf11780 (k := 31) (by decide) (by decide)).symm
          have m11791 := (m11753).trans (MF.r mf11780 (k := 24) (by decide) (by decide)).symm
          have m11792 := (m11754).trans (MF.r mf11780 (k := 17) (by decide) (by decide)).symm
          have m11793 := (m11755).trans (MF.r mf11780 (k := 26) (by decide) (by decide)).symm
          have m11794 := (m11756).trans (MF.r mf11780 (k := 27) (by decide) (by decide)).symm
          have m11795 := (m11757).trans (MF.r mf11780 (k := 28) (by decide) (by decide)).symm
          have m11796 := (m11758).trans (MF.r mf11780 (k := 25) (by decide) (by decide)).symm
          have m11797 := (m11759).trans (MF.i mf11780 (k := 18) (by decide) (by decide)).symm
          have m11798 := (MF.i mf11780 (k := 0) (by decide) (by decide)).trans m11760
          have m11799 := (MF.i mf11780 (k := 41) (by decide) (by decide)).trans m11761
          have m11800 := (MF.i mf11780 (k := 42) (by decide) (by decide)).trans m11762
          have m11801 := (MF.i mf11780 (k := 34) (by decide) (by decide)).trans m11763
          have m11802 := (MF.i mf11780 (k := 35) (by decide) (by decide)).trans m11765
          have m11803 := (MF.i mf11780 (k := 36) (by decide) (by decide)).trans m11766
          have mf11804 : MF K s.heap H11770 a0 [0, 18, 19, 20, 21, 22, 34, 35, 36, 38, 39, 40, 41, 42] := MF.trans mf11741 mf11780 (by decide)
          have bx11771 := ty_fi (x := x11771) (k := 19) ex11771 hTH11770 ga0 rg_112 rfl
          have bx11772 := ty_fi (x := x11772) (k := 20) ex11772 hTH11770 ga0 rg_112 rfl
          have bx11773 := ty_fi (x := x11773) (k := 21) ex11773 hTH11770 ga0 rg_112 rfl
          have bx11774 := ty_fi (x := x11774) (k := 22) ex11774 hTH11770 ga0 rg_112 rfl
          have cu11805 : CU bt tp.toNatClampNeg 0 x11772 x11771 x11773 x11774 := ⟨m11781, m11782, m11783, Nat.zero_le _⟩
          obtain ⟨r1H11770, r2H11770, r3H11770, r4H11770, r5H11770⟩ := hrH11770
          have frd9 : FRD H11770 s.heap lsq l1 l2 l3 f9 f0 f1 oq aq := FRD.kept (FRD.kept (FRD.kept (FRD.kept (FRD.kept (FRD.kept (FRD.kept (FRD.kept FRD.rf (fun l => Wr.neI wH11584 (Or.inl (G_ne glsq ga0 (by decide)))) (fun l => Wr.neI wH11584 (Or.inl (G_ne gl1 ga0 (by decide)))) (fun l => Wr.neI wH11584 (Or.inl (G_ne gl2 ga0 (by decide)))) (fun l => Wr.neI wH11584 (Or.inl (G_ne gl3 ga0 (by decide)))) (fun l => Wr.neI wH11584 (Or.inl (G_ne gf9 ga0 (by decide)))) (fun l => Wr.neI wH11584 (Or.inl (G_ne gf0 ga0 (by decide)))) (fun l => Wr.neI wH11584 (Or.inl (G_ne gf1 ga0 (by decide)))) (fun l => Wr.neI wH11584 (Or.inl (G_ne goq ga0 (by decide)))) (fun l => Wr.neI wH11584 (Or.inl (G_ne gaq ga0 (by decide))))) (fun l => Wr.neI wH11606 (Or.inl (G_ne glsq ga0 (by decide)))) (fun l => Wr.neI wH11606 (Or.inl (G_ne gl1 ga0 (by decide)))) (fun l => Wr.neI wH11606 (Or.inl (G_ne gl2 ga0 (by decide)))) (fun l => Wr.neI wH11606 (Or.inl (G_ne gl3 ga0 (by decide)))) (fun l => Wr.neI wH11606 (Or.inl (G_ne gf9 ga0 (by decide)))) (fun l => Wr.neI wH11606 (Or.inl (G_ne gf0 ga0 (by decide)))) (fun l => Wr.neI wH11606 (Or.inl (G_ne gf1 ga0 (by decide)))) (fun l => Wr.neI wH11606 (Or.inl (G_ne goq ga0 (by decide)))) (fun l => Wr.neI wH11606 (Or.inl (G_ne gaq ga0 (by decide))))) (fun l => Wr.neI wH11629 (Or.inl (G_ne glsq ga0 (by decide)))) (fun l => Wr.neI wH11629 (Or.inl (G_ne gl1 ga0 (by decide)))) (fun l => Wr.neI wH11629 (Or.inl (G_ne gl2 ga0 (by decide)))) (fun l => Wr.neI wH11629 (Or.inl (G_ne gl3 ga0 (by decide)))) (fun l => Wr.neI wH11629 (Or.inl (G_ne gf9 ga0 (by decide)))) (fun l => Wr.neI wH11629 (Or.inl (G_ne gf0 ga0 (by decide)))) (fun l => Wr.neI wH11629 (Or.inl (G_ne gf1 ga0 (by decide)))) (fun l => Wr.neI wH11629 (Or.inl (G_ne goq ga0 (by decide)))) (fun l => Wr.neI wH11629 (Or.inl (G_ne gaq ga0 (by decide))))) (fun l => Wr.neI wH11662 (Or.inl (G_ne glsq ga0 (by decide)))) (fun l => Wr.neI wH11662 (Or.inl (G_ne gl1 ga0 (by decide)))) (fun l => Wr.neI wH11662 (Or.inl (G_ne gl2 ga0 (by decide)))) (fun l => Wr.neI wH11662 (Or.inl (G_ne gl3 ga0 (by decide)))) (fun l => Wr.neI wH11662 (Or.inl (G_ne gf9 ga0 (by decide)))) (fun l => Wr.neI wH11662 (Or.inl (G_ne gf0 ga0 (by decide)))) (fun l => Wr.neI wH11662 (Or.inl (G_ne gf1 ga0 (by decide)))) (fun l => Wr.neI wH11662 (Or.inl (G_ne goq ga0 (by decide)))) (fun l => Wr.neI wH11662 (Or.inl (G_ne gaq ga0 (by decide))))) (fun l => Wr.neI wH11687 (Or.inl (G_ne glsq ga0 (by decide)))) (fun l => Wr.neI wH11687 (Or.inl (G_ne gl1 ga0 (by decide)))) (fun l => Wr.neI wH11687 (Or.inl (G_ne gl2 ga0 (by decide)))) (fun l => Wr.neI wH11687 (Or.inl (G_ne gl3 ga0 (by decide)))) (fun l => Wr.neI wH11687 (Or.inl (G_ne gf9 ga0 (by decide)))) (fun l => Wr.neI wH11687 (Or.inl (G_ne gf0 ga0 (by decide)))) (fun l => Wr.neI wH11687 (Or.inl (G_ne gf1 ga0 (by decide)))) (fun l => Wr.neI wH11687 (Or.inl (G_ne goq ga0 (by decide)))) (fun l => Wr.neI wH11687 (Or.inl (G_ne gaq ga0 (by decide))))) (fun l => Wr.neI wH11713 (Or.inl (G_ne glsq ga0 (by decide)))) (fun l => Wr.neI wH11713 (Or.inl (G_ne gl1 ga0 (by decide)))) (fun l => Wr.neI wH11713 (Or.inl (G_ne gl2 ga0 (by decide)))) (fun l => Wr.neI wH11713 (Or.inl (G_ne gl3 ga0 (by decide)))) (fun l => Wr.neI wH11713 (Or.inl (G_ne gf9 ga0 (by decide)))) (fun l => Wr.neI wH11713 (Or.inl (G_ne gf0 ga0 (by decide)))) (fun l => Wr.neI wH11713 (Or.inl (G_ne gf1 ga0 (by decide)))) (fun l => Wr.neI wH11713 (Or.inl (G_ne goq ga0 (by decide)))) (fun l => Wr.neI wH11713 (Or.inl (G_ne gaq ga0 (by decide))))) (fun l => Wr.neI wH11740 (Or.inl (G_ne glsq ga0 (by decide)))) (fun l => Wr.neI wH11740 (Or.inl (G_ne gl1 ga0 (by decide)))) (fun l => Wr.neI wH11740 (Or.inl (G_ne gl2 ga0 (by decide)))) (fun l => Wr.neI wH11740 (Or.inl (G_ne gl3 ga0 (by decide)))) (fun l => Wr.neI wH11740 (Or.inl (G_ne gf9 ga0 (by decide)))) (fun l => Wr.neI wH11740 (Or.inl (G_ne gf0 ga0 (by decide)))) (fun l => Wr.neI wH11740 (Or.inl (G_ne gf1 ga0 (by decide)))) (fun l => Wr.neI wH11740 (Or.inl (G_ne goq ga0 (by decide)))) (fun l => Wr.neI wH11740 (Or.inl (G_ne gaq ga0 (by decide))))) (fun l => fI_kept (x_lt hTH11740 kH11770 glsq (by decide))) (fun l => fI_kept (x_lt hTH11740 kH11770 gl1 (by decide))) (fun l => fI_kept (x_lt hTH11740 kH11770 gl2 (by decide))) (fun l => fI_kept (x_lt hTH11740 kH11770 gl3 (by decide))) (fun l => fI_kept (x_lt hTH11740 kH11770 gf9 (by decide))) (fun l => fI_kept (x_lt hTH11740 kH11770 gf0 (by decide))) (fun l => fI_kept (x_lt hTH11740 kH11770 gf1 (by decide))) (fun l => fI_kept (x_lt hTH11740 kH11770 goq (by decide))) (fun l => fI_kept (x_lt hTH11740 kH11770 gaq (by decide)))
          refine W.eq (g2 := F0 m 83 ls11658 []) rfl ?_
          refine lv_iload_n hx hb dX10_text_83 rfl (lv_at hl11659 0 rfl) ?_
          refine lv_if_eq (tgt := 94) hx hb dX10_text_84 (by decide) (fun c11806 => ?_) (fun c11806 => ?_)
          · have k11807 := i_eq c11806
            exfalso
            omega
          · have k11807 := i_ne c11806
            refine lv_aload_n hx hb dX10_text_87 rfl (lv_at hl11659 1 rfl) ?_
            refine x_V (As := []) (rest := []) C (a_X10_readText_g l K G H11770 (x11771) (x11772) (x11773) (x11774) (0) (0) (tp) (0) (0) bt hTH11770 ga0 goq m11786 gaq m11787 gf9 m11788 gf0 m11789 gf1 m11790 gtq m11775 gl1 m11793 gl2 m11794 gl3 m11795 glsq m11796 ex11771 ex11772 ex11773 ex11774 (m11802).symm (m11803).symm m11797 (m11801).symm g11776 g11777 g11778 g11779 (by omega) (by omega) (by omega) (by omega) (cu11805) (hy1) f11784) yo_X10_readText wM_X10_295 ⟨⟨by decide, by decide⟩, by decide, by decide⟩ (x_rv C hTH11770 (ci := 10) rfl ga0 rg_112) rfl hl11659.1 rfl (Nat.le_of_ble_eq_true rfl) dX10_text_88 hSH11770 (AE_sub (fun _ _ => rfl) (by decide) hSH11770.1) (fun vH11808 H11808 locsH11808 pH11808 zH11808 kH11808 hSH11808 => ?_)
            obtain ⟨x11809, x11810, x11811, x11812, x11813, x11814, x11815, hvH11808, bx11809, ex11810, ex11811, ex11812, ex11813, ex11814, ex11815, hrH11808, m11816, m11817, m11818, m11819, m11820, m11821, m11822, m11823, m11824, m11825, g11826, g11827, g11828, g11829, mf11830, m11831, m11832, m11833, m11834, hTH11808⟩ := pH11808
            subst hvH11808
            clear zH11808
            replace m11816 := EQN.mk m11816
            replace m11817 := EQN.mk m11817
            replace m11818 := EQN.mk m11818
            replace m11819 := EQN.mk m11819
            replace m11820 := EQN.mk m11820
            replace m11821 := EQN.mk m11821
            replace m11822 := EQN.mk m11822
            replace m11823 := EQN.mk m11823
            replace m11824 := EQN.mk m11824
            replace m11825 := EQN.mk m11825
            have f11835 : ∀ j : Nat, bt j = (fI H11808 tq j).toInt := fun j => (f11784 j).trans (congrArg Int32.toInt (fI_kept (x_lt hTH11770 kH11808 gtq (by decide))).symm)
            have f11836 : ∀ j : Nat, fI H11808 mq j = fI s.heap mq j := fun j => (fI_kept (x_lt hTH11770 kH11808 gmq (by decide))).trans (f11785 j)
            have m11837 := (m11786).trans (MF.r mf11830 (k := 32) (by decide) (by decide)).symm
            have m11838 := (m11787).trans (MF.r mf11830 (k := 33) (by decide) (by decide)).symm
            have m11839 := (m11788).trans (MF.r mf11830 (k := 29) (by decide) (by decide)).symm
            have m11840 := (m11789).trans (MF.r mf11830 (k := 30) (by decide) (by decide)).symm
            have m11841 := (m11790).trans (MF.r mf11830 (k := 31) (by decide) (by decide)).symm
            have m11842 := (m11791).trans (MF.r mf11830 (k := 24) (by decide) (by decide)).symm
            have m11843 := (m11775).trans (MF.r mf11830 (k := 17) (by decide) (by decide)).symm
            have m11844 := (m11793).trans (MF.r mf11830 (k := 26) (by decide) (by decide)).symm
            have m11845 := (m11794).trans (MF.r mf11830 (k := 27) (by decide) (by decide)).symm
            have m11846 := (m11795).trans (MF.r mf11830 (k := 28) (by decide) (by decide)).symm
            have m11847 := (m11796).trans (MF.r mf11830 (k := 25) (by decide) (by decide)).symm
            have m11848 := (m11797).trans (MF.i mf11830 (k := 18) (by decide) (by decide)).symm
            have m11849 := (MF.i mf11830 (k := 0) (by decide) (by decide)).trans m11798
            have m11850 := (MF.i mf11830 (k := 41) (by decide) (by decide)).trans m11799
            have m11851 := (MF.i mf11830 (k := 42) (by decide) (by decide)).trans m11800
            have m11852 := (MF.i mf11830 (k := 34) (by decide) (by decide)).trans m11801
            have mf11853 : MF K s.heap H11808 a0 [0, 18, 19, 20, 21, 22, 34, 35, 36, 38, 39, 40, 41, 42] := MF.trans mf11804 mf11830 (by decide)
            have bx11810 := ty_fi (x := x11810) (k := 19) ex11810 hTH11808 ga0 rg_112 rfl
            have bx11811 := ty_fi (x := x11811) (k := 20) ex11811 hTH11808 ga0 rg_112 rfl
            have bx11812 := ty_fi (x := x11812) (k := 21) ex11812 hTH11808 ga0 rg_112 rfl
            have bx11813 := ty_fi (x := x11813) (k := 22) ex11813 hTH11808 ga0 rg_112 rfl
            have bx11814 := ty_fi (x := x11814) (k := 35) ex11814 hTH11808 ga0 rg_112 rfl
            have bx11815 := ty_fi (x := x11815) (k := 36) ex11815 hTH11808 ga0 rg_112 rfl
            refine W.eq (g2 := F0 m 91 ls11658 [.int x11809]) rfl ?_
            refine lv_goto (tgt := 95) hx hb dX10_text_91 (by decide) ?_
            refine lv_istore (lv' := [(4, .int x11809), (3, .int 1), (0, .ref a0), (1, .int x1), (2, .int x2)]) hx hb dX10_text_95 hl11659 (by decide) rfl (fun ls11854 hl11855 => ?_)
            refine lv_aload_n hx hb dX10_text_97 rfl (lv_at hl11855 2 rfl) ?_
            refine lv_iconst (v := 0) hx hb dX10_text_98 (by decide) ?_
            refine x_put C hTH11808 hSH11808 (ci := 10) (k := 18) (v := .int 0) (ty0 := tyX10) rfl inX10 tyX10_ok nmX10 (by decide) rfl wF_X10_185 ga0 rg_112 rfl rfl (okI (by have := i_rng (0 : Int32); omega) (by have := i_rng (0 : Int32); omega)) rfl rfl (AE_in ga0 (by decide)) dX10_text_99 (fun H11856 locsH11856 hTH11856 hSH11856 wH11856 => ?_)
            have mf11857 : MF K s.heap H11856 a0 [0, 18, 19, 20, 21, 22, 34, 35, 36, 38, 39, 40, 41, 42] := MF.fld hap wH11856 (by decide) (by decide) mf11853
            have g11858 : CG (avw K H11856 a0) := CG.congr (fun k hk j => av_fld hTH11808 ga0 hap wH11856 (by decide) (CG_ok 112 (by decide) k hk) (CG_ne 18 (by decide) k hk)) g11826
            have g11859 : TU (avw K H11856 a0) (svw K H11856 a0) := TU.congr (fun k hk j => av_fld hTH11808 ga0 hap wH11856 (by decide) (TU_ok 112 (by decide) k hk) (TU_ne 18 (by decide) k hk)) (fun k hk => sv_fld hap wH11856 (by decide) (TU_slt k hk) (TU_sne 18 (by decide) k hk)) g11827
            have g11860 : WD (avw K H11856 a0) := WD.congr (fun k hk j => av_fld hTH11808 ga0 hap wH11856 (by decide) (WD_ok 112 (by decide) k hk) (WD_ne 18 (by decide) k hk)) g11828
            have g11861 : IM (avw K H11856 a0) := IM.congr (fun k hk j => av_fld hTH11808 ga0 hap wH11856 (by decide) (IM_ok 112 (by decide) k hk) (IM_ne 18 (by decide) k hk)) g11829
            have f11862 : ∀ j : Nat, bt j = (fI H11856 tq j).toInt := fun j => (f11835 j).trans (congrArg Int32.toInt (Wr.neI wH11856 (Or.inl (G_ne gtq ga0 (by decide)))).symm)
            have f11863 : ∀ j : Nat, fI H11856 mq j = fI s.heap mq j := fun j => (Wr.neI wH11856 (Or.inl (G_ne gmq ga0 (by decide)))).trans (f11836 j)
            have m11864 := m11816.trans (Wr.neR wH11856 (Or.inr (x_apart hKT hts inX10 tyX10 tyX10_ok nmX10 rfl 32 18 (by decide) (by decide) (by decide)))).symm
            have m11865 := m11817.trans (Wr.neR wH11856 (Or.inr (x_apart hKT hts inX10 tyX10 tyX10_ok nmX10 rfl 33 18 (by decide) (by decide) (by decide)))).symm
            have m11866 := m11818.trans (Wr.neR wH11856 (Or.inr (x_apart hKT hts inX10 tyX10 tyX10_ok nmX10 rfl 29 18 (by decide) (by decide) (by decide)))).symm
            have m11867 := m11819.trans (Wr.neR wH11856 (Or.inr (x_apart hKT hts inX10 tyX10 tyX10_ok nmX10 rfl 30 18 (by decide) (by decide) (by decide)))).symm
            have m11868 := m11820.trans (Wr.neR wH11856 (Or.inr (x_apart hKT hts inX10 tyX10 tyX10_ok nmX10 rfl 31 18 (by decide) (by decide) (by decide)))).symm
            have m11869 := m11842.trans (Wr.neR wH11856 (Or.inr (x_apart hKT hts inX10 tyX10 tyX10_ok nmX10 rfl 24 18 (by decide) (by decide) (by decide)))).symm
            have m11870 := m11821.trans (Wr.neR wH11856 (Or.inr (x_apart hKT hts inX10 tyX10 tyX10_ok nmX10 rfl 17 18 (by decide) (by decide) (by decide)))).symm
            have m11871 := m11822.trans (Wr.neR wH11856 (Or.inr (x_apart hKT hts inX10 tyX10 tyX10_ok nmX10 rfl 26 18 (by decide) (by decide) (by decide)))).symm
            have m11872 := m11823.trans (Wr.neR wH11856 (Or.inr (x_apart hKT hts inX10 tyX10 tyX10_ok nmX10 rfl 27 18 (by decide) (by decide) (by decide)))).symm
            have m11873 := m11824.trans (Wr.neR wH11856 (Or.inr (x_apart hKT hts inX10 tyX10 tyX10_ok nmX10 rfl 28 18 (by decide) (by decide) (by decide)))).symm
            have m11874 := m11825.trans (Wr.neR wH11856 (Or.inr (x_apart hKT hts inX10 tyX10 tyX10_ok nmX10 rfl 25 18 (by decide) (by decide) (by decide)))).symm
            have m11876 := (Wr.neI wH11856 (Or.inr (x_apart hKT hts inX10 tyX10 tyX10_ok nmX10 rfl 0 18 (by decide) (by decide) (by decide)))).trans m11849
            have m11877 := (Wr.neI wH11856 (Or.inr (x_apart hKT hts inX10 tyX10 tyX10_ok nmX10 rfl 41 18 (by decide) (by decide) (by decide)))).trans m11850
            have m11878 := (Wr.neI wH11856 (Or.inr (x_apart hKT hts inX10 tyX10 tyX10_ok nmX10 rfl 42 18 (by decide) (by decide) (by decide)))).trans m11851
            have m11879 := (Wr.neI wH11856 (Or.inr (x_apart hKT hts inX10 tyX10 tyX10_ok nmX10 rfl 34 18 (by decide) (by decide) (by decide)))).trans m11852
            have m11880 := ex11810.trans (Wr.neI wH11856 (Or.inr (x_apart hKT hts inX10 tyX10 tyX10_ok nmX10 rfl 19 18 (by decide) (by decide) (by decide)))).symm
            have m11881 := ex11811.trans (Wr.neI wH11856 (Or.inr (x_apart hKT hts inX10 tyX10 tyX10_ok nmX10 rfl 20 18 (by decide) (by decide) (by decide)))).symm
            have m11882 := ex11812.trans (Wr.neI wH11856 (Or.inr (x_apart hKT hts inX10 tyX10 tyX10_ok nmX10 rfl 21 18 (by decide) (by decide) (by decide)))).symm
            have m11883 := ex11813.trans (Wr.neI wH11856 (Or.inr (x_apart hKT hts inX10 tyX10 tyX10_ok nmX10 rfl 22 18 (by decide) (by decide) (by decide)))).symm
            have m11884 := ex11814.trans (Wr.neI wH11856 (Or.inr (x_apart hKT hts inX10 tyX10 tyX10_ok nmX10 rfl 35 18 (by decide) (by decide) (by decide)))).symm
            have m11885 := ex11815.trans (Wr.neI wH11856 (Or.inr (x_apart hKT hts inX10 tyX10 tyX10_ok nmX10 rfl 36 18 (by decide) (by decide) (by decide)))).symm
            have m11886 := Wr.I wH11856
            clear ex11810 ex11811 ex11812 ex11813 ex11814 ex11815 f11835 f11836 g11826 g11827 g11828 g11829 hTH11808 m11816 m11817 m11818 m11819 m11820 m11821 m11822 m11823 m11824 m11825 m11842 m11848 m11849 m11850 m11851 m11852 mf11853
            refine lv_iload_n hx hb dX10_text_102 rfl (lv_at hl11855 1 rfl) ?_
            refine lv_if_eq (tgt := 128) hx hb dX10_text_103 (by decide) (fun c11887 => ?_) (fun c11887 => ?_)
            · have k11888 := i_eq c11887
              exfalso
              omega
            · have k11888 := i_ne c11887
              refine lv_iload hx hb dX10_text_106 (lv_at hl11855 0 rfl) ?_
              refine lv_iconst (v := (-1)) hx hb dX10_text_108 (by decide) ?_
              refine lv_icmp_ne (tgt := 128) hx hb dX10_text_109 (by decide) (fun c11889 => ?_) (fun c11889 => ?_)
              · have k11890 := i_ne c11889
                refine lv_iload hx hb dX10_text_128 (lv_at hl11855 0 rfl) ?_
                refine lv_iconst (v := (-1)) hx hb dX10_text_130 (by decide) ?_
                refine lv_icmp_ne (tgt := 136) hx hb dX10_text_131 (by decide) (fun c11891 => ?_) (fun c11891 => ?_)
                · have k11892 := i_ne c11891
                  refine lv_iload_n hx hb dX10_text_136 rfl (lv_at hl11855 3 rfl) ?_
                  refine lv_if_ne (tgt := 144) hx hb dX10_text_137 (by decide) (fun c11893 => ?_) (fun c11893 => ?_)
                  · have k11894 := i_ne c11893
                    exfalso
                    omega
                  · have k11894 := i_eq c11893
                    refine lv_iload_n hx hb dX10_text_140 rfl (lv_at hl11855 4 rfl) ?_
                    refine lv_goto (tgt := 147) hx hb dX10_text_141 (by decide) ?_
                    refine lv_istore (lv' := [(5, .int x2), (4, .int x11809), (3, .int 1), (0, .ref a0), (1, .int x1), (2, .int x2)]) hx hb dX10_text_147 hl11855 (by decide) rfl (fun ls11895 hl11896 => ?_)
                    have hDL := m11831.resolve_left (by omega)
                    replace hDL := DL.congr (fun j => Wr.neI wH11856 (Or.inl (G_ne gf9 ga0 (by decide)))) (fun j => Wr.neI wH11856 (Or.inl (G_ne gf0 ga0 (by decide)))) (fun j => Wr.neI wH11856 (Or.inl (G_ne gf1 ga0 (by decide)))) (fun j => Wr.neI wH11856 (Or.inl (G_ne goq ga0 (by decide)))) (fun j => Wr.neI wH11856 (Or.inl (G_ne gaq ga0 (by decide)))) hDL
                    have cn_x11809 := i_cl (x := x11809) (by omega)
                    have cn_x11814 := i_cl (x := x11814) bx11814.1
                    obtain ⟨ti_, htr_⟩ := m11833.resolve_left (by omega)
                    exact J149  ls11895 H11856 locsH11856 (x11809) (x2) (x11814) (0) (lv_sub hl11896 [3, 1, 0] rfl) hTH11856 hSH11856 ⟨by have := i_rng x11809; omega, by have := i_rng x11809; omega⟩ ⟨by have := i_rng x2; omega, by have := i_rng x2; omega⟩ bx11814 (by decide) m11884 (m11886).symm m11864 m11865 m11866 m11867 m11868 m11869 m11870 m11871 m11872 m11873 m11874 mf11857 g11858 g11859 g11860 g11861 f11862 f11863 (by omega) (DL.cast hDL (by omega) (by omega)) (HD.mk (TXA.mk (by omega) (by rw [if_pos (by omega)]; rfl) m11832)) (HD.mk ⟨ti_, TXRW.lwc (TXRW.kept htr_ (fun l => Wr.neI wH11856 (Or.inl (G_ne glsq ga0 (by decide)))) (fun l => Wr.neI wH11856 (Or.inl (G_ne gl1 ga0 (by decide)))) (fun l => Wr.neI wH11856 (Or.inl (G_ne gl2 ga0 (by decide)))) (fun l => Wr.neI wH11856 (Or.inl (G_ne gl3 ga0 (by decide)))) (fun l => Wr.neI wH11856 (Or.inl (G_ne gf9 ga0 (by decide)))) (fun l => Wr.neI wH11856 (Or.inl (G_ne gf0 ga0 (by decide)))) (fun l => Wr.neI wH11856 (Or.inl (G_ne gf1 ga0 (by decide)))) (fun l => Wr.neI wH11856 (Or.inl (G_ne goq ga0 (by decide)))) (fun l => Wr.neI wH11856 (Or.inl (G_ne gaq ga0 (by decide))))) (by omega)⟩) (HD.mk (FRD.kept (FRD.trans m11834 frd9) (fun l => Wr.neI wH11856 (Or.inl (G_ne glsq ga0 (by decide)))) (fun l => Wr.neI wH11856 (Or.inl (G_ne gl1 ga0 (by decide)))) (fun l => Wr.neI wH11856 (Or.inl (G_ne gl2 ga0 (by decide)))) (fun l => Wr.neI wH11856 (Or.inl (G_ne gl3 ga0 (by decide)))) (fun l => Wr.neI wH11856 (Or.inl (G_ne gf9 ga0 (by decide)))) (fun l => Wr.neI wH11856 (Or.inl (G_ne gf0 ga0 (by decide)))) (fun l => Wr.neI wH11856 (Or.inl (G_ne gf1 ga0 (by decide)))) (fun l => Wr.neI wH11856 (Or.inl (G_ne goq ga0 (by decide)))) (fun l => Wr.neI wH11856 (Or.inl (G_ne gaq ga0 (by decide))))))
                · have k11892 := i_eq c11891
                  exfalso
                  omega
              · have k11890 := i_eq c11889
                refine lv_aload_n hx hb dX10_text_112 rfl (lv_at hl11855 2 rfl) ?_
                refine lv_aload_n hx hb dX10_text_113 rfl (lv_at hl11855 2 rfl) ?_
                refine x_gi C hTH11856 (ci := 10) (k := 39) rfl inX10 (by decide) wF_X10_222 ga0 rg_112 rfl dX10_text_114 (fun x11897 ex11897 bx11897 => ?_)
                refine x_put C hTH11856 hSH11856 (ci := 10) (k := 41) (v := .int x11897) (ty0 := tyX10) rfl inX10 tyX10_ok nmX10 (by decide) rfl wF_X10_292 ga0 rg_112 rfl rfl (okI bx11897.1 bx11897.2) rfl rfl (AE_in ga0 (by decide)) dX10_text_117 (fun H11898 locsH11898 hTH11898 hSH11898 wH11898 => ?_)
                have mf11899 : MF K s.heap H11898 a0 [0, 18, 19, 20, 21, 22, 34, 35, 36, 38, 39, 40, 41, 42] := MF.fld hap wH11898 (by decide) (by decide) mf11857
                have g11900 : CG (avw K H11898 a0) := CG.congr (fun k hk j => av_fld hTH11856 ga0 hap wH11898 (by decide) (CG_ok 112 (by decide) k hk) (CG_ne 41 (by decide) k hk)) g11858
                have g11901 : TU (avw K H11898 a0) (svw K H11898 a0) := TU.congr (fun k hk j => av_fld hTH11856 ga0 hap wH11898 (by decide) (TU_ok 112 (by decide) k hk) (TU_ne 41 (by decide) k hk)) (fun k hk => sv_fld hap wH11898 (by decide) (TU_slt k hk) (TU_sne 41 (by decide) k hk)) g11859
                have g11902 : WD (avw K H11898 a0) := WD.congr (fun k hk j => av_fld hTH11856 ga0 hap wH11898 (by decide) (WD_ok 112 (by decide) k hk) (WD_ne 41 (by decide) k hk)) g11860
                have g11903 : IM (avw K H11898 a0) := IM.congr (fun k hk j => av_fld hTH11856 ga0 hap wH11898 (by decide) (IM_ok 112 (by decide) k hk) (IM_ne 41 (by decide) k hk)) g11861
                have f11904 : ∀ j : Nat, bt j = (fI H11898 tq j).toInt := fun j => (f11862 j).trans (congrArg Int32.toInt (Wr.neI wH11898 (Or.inl (G_ne gtq ga0 (by decide)))).symm)
                have f11905 : ∀ j : Nat, fI H11898 mq j = fI s.heap mq j := fun j => (Wr.neI wH11898 (Or.inl (G_ne gmq ga0 (by decide)))).trans (f11863 j)
                have m11906 := m11864.trans (Wr.neR wH11898 (Or.inr (x_apart hKT hts inX10 tyX10 tyX10_ok nmX10 rfl 32 41 (by decide) (by decide) (by decide)))).symm
                have m11907 := m11865.trans (Wr.neR wH11898 (Or.inr (x_apart hKT hts inX10 tyX10 tyX10_ok nmX10 rfl 33 41 (by decide) (by decide) (by decide)))).symm
                have m11908 := m11866.trans (Wr.neR wH11898 (Or.inr (x_apart hKT hts inX10 tyX10 tyX10_ok nmX10 rfl 29 41 (by decide) (by decide) (by decide)))).symm
                have m11909 := m11867.trans (Wr.neR wH11898 (Or.inr (x_apart hKT hts inX10 tyX10 tyX10_ok nmX10 rfl 30 41 (by decide) (by decide) (by decide)))).symm
                have m11910 := m11868.trans (Wr.neR wH11898 (Or.inr (x_apart hKT hts inX10 tyX10 tyX10_ok nmX10 rfl 31 41 (by decide) (by decide) (by decide)))).symm
                have m11911 := m11869.trans (Wr.neR wH11898 (Or.inr (x_apart hKT hts inX10 tyX10 tyX10_ok nmX10 rfl 24 41 (by decide) (by decide) (by decide)))).symm
                have m11912 := m11870.trans (Wr.neR wH11898 (Or.inr (x_apart hKT hts inX10 tyX10 tyX10_ok nmX10 rfl 17 41 (by decide) (by decide) (by decide)))).symm
                have m11913 := m11871.trans (Wr.neR wH11898 (Or.inr (x_apart hKT hts inX10 tyX10 tyX10_ok nmX10 rfl 26 41 (by decide) (by decide) (by decide)))).symm
                have m11914 := m11872.trans (Wr.neR wH11898 (Or.inr (x_apart hKT hts inX10 tyX10 tyX10_ok nmX10 rfl 27 41 (by decide) (by decide) (by decide)))).symm
                have m11915 := m11873.trans (Wr.neR wH11898 (Or.inr (x_apart hKT hts inX10 tyX10 tyX10_ok nmX10 rfl 28 41 (by decide) (by decide) (by decide)))).symm
                have m11916 := m11874.trans (Wr.neR wH11898 (Or.inr (x_apart hKT hts inX10 tyX10 tyX10_ok nmX10 rfl 25 41 (by decide) (by decide) (by decide)))).symm
                have m11917 := (Wr.neI wH11898 (Or.inr (x_apart hKT hts inX10 tyX10 tyX10_ok nmX10 rfl 0 41 (by decide) (by decide) (by decide)))).trans m11876
                have m11919 := (Wr.neI wH11898 (Or.inr (x_apart hKT hts inX10 tyX10 tyX10_ok nmX10 rfl 42 41 (by decide) (by decide) (by decide)))).trans m11878
                have m11920 := (Wr.neI wH11898 (Or.inr (x_apart hKT hts inX10 tyX10 tyX10_ok nmX10 rfl 34 41 (by decide) (by decide) (by decide)))).trans m11879
                have m11921 := m11880.trans (Wr.neI wH11898 (Or.inr (x_apart hKT hts inX10 tyX10 tyX10_ok nmX10 rfl 19 41 (by decide) (by decide) (by decide)))).symm
                have m11922 := m11881.trans (Wr.neI wH11898 (Or.inr (x_apart hKT hts inX10 tyX10 tyX10_ok nmX10 rfl 20 41 (by decide) (by decide) (by decide)))).symm
                have m11923 := m11882.trans (Wr.neI wH11898 (Or.inr (x_apart hKT hts inX10 tyX10 tyX10_ok nmX10 rfl 21 41 (by decide) (by decide) (by decide)))).symm
                have m11924 := m11883.trans (Wr.neI wH11898 (Or.inr (x_apart hKT hts inX10 tyX10 tyX10_ok nmX10 rfl 22 41 (by decide) (by decide) (by decide)))).symm
                have m11925 := m11884.trans (Wr.neI wH11898 (Or.inr (x_apart hKT hts inX10 tyX10 tyX10_ok nmX10 rfl 35 41 (by decide) (by decide) (by decide)))).symm
                have m11926 := m11885.trans (Wr.neI wH11898 (Or.inr (x_apart hKT hts inX10 tyX10 tyX10_ok nmX10 rfl 36 41 (by decide) (by decide) (by decide)))).symm
                have m11927 := (Wr.neI wH11898 (Or.inr (x_apart hKT hts inX10 tyX10 tyX10_ok nmX10 rfl 18 41 (by decide) (by decide) (by decide)))).trans m11886
                have m11928 := ex11897.trans (Wr.neI wH11898 (Or.inr (x_apart hKT hts inX10 tyX10 tyX10_ok nmX10 rfl 39 41 (by decide) (by decide) (by decide)))).symm
                have m11929 := Wr.I wH11898
                have m11929 := m11929.symm
                clear ex11897 f11862 f11863 g11858 g11859 g11860 g11861 hTH11856 m11864 m11865 m11866 m11867 m11868 m11869 m11870 m11871 m11872 m11873 m11874 m11876 m11877 m11878 m11879 m11880 m11881 m11882 m11883 m11884 m11885 m11886 mf11857
                refine lv_aload_n hx hb dX10_text_120 rfl (lv_at hl11855 2 rfl) ?_
                refine lv_aload_n hx hb dX10_text_121 rfl (lv_at hl11855 2 rfl) ?_
                refine x_gi C hTH11898 (ci := 10) (k := 40) rfl inX10 (by decide) wF_X10_225 ga0 rg_112 rfl dX10_text_122 (fun x11930 ex11930 bx11930 => ?_)
                refine x_put C hTH11898 hSH11898 (ci := 10) (k := 42) (v := .int x11930) (ty0 := tyX10) rfl inX10 tyX10_ok nmX10 (by decide) rfl wF_X10_92 ga0 rg_112 rfl rfl (okI bx11930.1 bx11930.2) rfl rfl (AE_in ga0 (by decide)) dX10_text_125 (fun H11931 locsH11931 hTH11931 hSH11931 wH11931 => ?_)
                have mf11932 : MF K s.heap H11931 a0 [0, 18, 19, 20, 21, 22, 34, 35, 36, 38, 39, 40, 41, 42] := MF.fld hap wH11931 (by decide) (by decide) mf11899
                have g11933 : CG (avw K H11931 a0) := CG.congr (fun k hk j => av_fld hTH11898 ga0 hap wH11931 (by decide) (CG_ok 112 (by decide) k hk) (CG_ne 42 (by decide) k hk)) g11900
                have g11934 : TU (avw K H11931 a0) (svw K H11931 a0) := TU.congr (fun k hk j => av_fld hTH11898 ga0 hap wH11931 (by decide) (TU_ok 112 (by decide) k hk) (TU_ne 42 (by decide) k hk)) (fun k hk => sv_fld hap wH11931 (by decide) (TU_slt k hk) (TU_sne 42 (by decide) k hk)) g11901
                have g11935 : WD (avw K H11931 a0) := WD.congr (fun k hk j => av_fld hTH11898 ga0 hap wH11931 (by decide) (WD_ok 112 (by decide) k hk) (WD_ne 42 (by decide) k hk)) g11902
                have g11936 : IM (avw K H11931 a0) := IM.congr (fun k hk j => av_fld hTH11898 ga0 hap wH11931 (by decide) (IM_ok 112 (by decide) k hk) (IM_ne 42 (by decide) k hk)) g11903
                have f11937 : ∀ j : Nat, bt j = (fI H11931 tq j).toInt := fun j => (f11904 j).trans (congrArg Int32.toInt (Wr.neI wH11931 (Or.inl (G_ne gtq ga0 (by decide)))).symm)
                have f11938 : ∀ j : Nat, fI H11931 mq j = fI s.heap mq j := fun j => (Wr.neI wH11931 (Or.inl (G_ne gmq ga0 (by decide)))).trans (f11905 j)
                have m11939 := m11906.trans (Wr.neR wH11931 (Or.inr (x_apart hKT hts inX10 tyX10 tyX10_ok nmX10 rfl 32 42 (by decide) (by decide) (by decide)))).symm
                have m11940 := m11907.trans (Wr.neR wH11931 (Or.inr (x_apart hKT hts inX10 tyX10 tyX10_ok nmX10 rfl 33 42 (by decide) (by decide) (by decide)))).symm
                have m11941 := m11908.trans (Wr.neR wH11931 (Or.inr (x_apart hKT hts inX10 tyX10 tyX10_ok nmX10 rfl 29 42 (by decide) (by decide) (by decide)))).symm
                have m11942 := m11909.trans (Wr.neR wH11931 (Or.inr (x_apart hKT hts inX10 tyX10 tyX10_ok nmX10 rfl 30 42 (by decide) (by decide) (by decide)))).symm
                have m11943 := m11910.trans (Wr.neR wH11931 (Or.inr (x_apart hKT hts inX10 tyX10 tyX10_ok nmX10 rfl 31 42 (by decide) (by decide) (by decide)))).symm
                have m11944 := m11911.trans (Wr.neR wH11931 (Or.inr (x_apart hKT hts inX10 tyX10 tyX10_ok nmX10 rfl 24 42 (by decide) (by decide) (by decide)))).symm
                have m11945 := m11912.trans (Wr.neR wH11931 (Or.inr (x_apart hKT hts inX10 tyX10 tyX10_ok nmX10 rfl 17 42 (by decide) (by decide) (by decide)))).symm
                have m11946 := m11913.trans (Wr.neR wH11931 (Or.inr (x_apart hKT hts inX10 tyX10 tyX10_ok nmX10 rfl 26 42 (by decide) (by decide) (by decide)))).symm
                have m11947 := m11914.trans (Wr.neR wH11931 (Or.inr (x_apart hKT hts inX10 tyX10 tyX10_ok nmX10 rfl 27 42 (by decide) (by decide) (by decide)))).symm
                have m11948 := m11915.trans (Wr.neR wH11931 (Or.inr (x_apart hKT hts inX10 tyX10 tyX10_ok nmX10 rfl 28 42 (by decide) (by decide) (by decide)))).symm
                have m11949 := m11916.trans (Wr.neR wH11931 (Or.inr (x_apart hKT hts inX10 tyX10 tyX10_ok nmX10 rfl 25 42 (by decide) (by decide) (by decide)))).symm
                have m11950 := (Wr.neI wH11931 (Or.inr (x_apart hKT hts inX10 tyX10 tyX10_ok nmX10 rfl 0 42 (by decide) (by decide) (by decide)))).trans m11917
                have m11952 := (Wr.neI wH11931 (Or.inr (x_apart hKT hts inX10 tyX10 tyX10_ok nmX10 rfl 34 42 (by decide) (by decide) (by decide)))).trans m11920
                have m11953 := m11921.trans (Wr.neI wH11931 (Or.inr (x_apart hKT hts inX10 tyX10 tyX10_ok nmX10 rfl 19 42 (by decide) (by decide) (by decide)))).symm
                have m11954 := m11922.trans (Wr.neI wH11931 (Or.inr (x_apart hKT hts inX10 tyX10 tyX10_ok nmX10 rfl 20 42 (by decide) (by decide) (by decide)))).symm
                have m11955 := m11923.trans (Wr.neI wH11931 (Or.inr (x_apart hKT hts inX10 tyX10 tyX10_ok nmX10 rfl 21 42 (by decide) (by decide) (by decide)))).symm
                have m11956 := m11924.trans (Wr.neI wH11931 (Or.inr (x_apart hKT hts inX10 tyX10 tyX10_ok nmX10 rfl 22 42 (by decide) (by decide) (by decide)))).symm
                have m11957 := m11925.trans (Wr.neI wH11931 (Or.inr (x_apart hKT hts inX10 tyX10 tyX10_ok nmX10 rfl 35 42 (by decide) (by decide) (by decide)))).symm
                have m11958 := m11926.trans (Wr.neI wH11931 (Or.inr (x_apart hKT hts inX10 tyX10 tyX10_ok nmX10 rfl 36 42 (by decide) (by decide) (by decide)))).symm
                have m11959 := (Wr.neI wH11931 (Or.inr (x_apart hKT hts inX10 tyX10 tyX10_ok nmX10 rfl 18 42 (by decide) (by decide) (by decide)))).trans m11927
                have m11960 := m11928.trans (Wr.neI wH11931 (Or.inr (x_apart hKT hts inX10 tyX10 tyX10_ok nmX10 rfl 39 42 (by decide) (by decide) (by decide)))).symm
                have m11961 := m11929.trans (Wr.neI wH11931 (Or.inr (x_apart hKT hts inX10 tyX10 tyX10_ok nmX10 rfl 41 42 (by decide) (by decide) (by decide)))).symm
                have m11962 := ex11930.trans (Wr.neI wH11931 (Or.inr (x_apart hKT hts inX10 tyX10 tyX10_ok nmX10 rfl 40 42 (by decide) (by decide) (by decide)))).symm
                have m11963 := Wr.I wH11931
                have m11963 := m11963.symm
                clear ex11930 f11904 f11905 g11900 g11901 g11902 g11903 hTH11898 m11906 m11907 m11908 m11909 m11910 m11911 m11912 m11913 m11914 m11915 m11916 m11917 m11919 m11920 m11921 m11922 m11923 m11924 m11925 m11926 m11927 m11928 m11929 mf11899
                refine lv_iload hx hb dX10_text_128 (lv_at hl11855 0 rfl) ?_
                refine lv_iconst (v := (-1)) hx hb dX10_text_130 (by decide) ?_
                refine lv_icmp_ne (tgt := 136) hx hb dX10_text_131 (by decide) (fun c11964 => ?_) (fun c11964 => ?_)
                · have k11965 := i_ne c11964
                  exfalso
                  omega
                · have k11965 := i_eq c11964
                  refine lv_iconst (v := (-1)) hx hb dX10_text_134 (by decide) ?_
                  exact x_iret C hQ dX10_text_135 hSH11931 (by decide) (by decide) (⟨(-1), x11814, 0, rfl, m11957, (m11959).symm, by omega, m11939, m11940, m11941, m11942, m11943, m11944, m11945, m11946, m11947, m11948, m11949, g11933, g11934, g11935, g11936, mf11932, (TXA.mk (by omega) (by rw [if_pos (by omega)]; rfl) m11832).cast (by omega), Or.inl (by omega), (FRD.rwk (FRD.kept (FRD.kept (FRD.kept (FRD.trans m11834 frd9) (fun l => Wr.neI wH11856 (Or.inl (G_ne glsq ga0 (by decide)))) (fun l => Wr.neI wH11856 (Or.inl (G_ne gl1 ga0 (by decide)))) (fun l => Wr.neI wH11856 (Or.inl (G_ne gl2 ga0 (by decide)))) (fun l => Wr.neI wH11856 (Or.inl (G_ne gl3 ga0 (by decide)))) (fun l => Wr.neI wH11856 (Or.inl (G_ne gf9 ga0 (by decide)))) (fun l => Wr.neI wH11856 (Or.inl (G_ne gf0 ga0 (by decide)))) (fun l => Wr.neI wH11856 (Or.inl (G_ne gf1 ga0 (by decide)))) (fun l => Wr.neI wH11856 (Or.inl (G_ne goq ga0 (by decide)))) (fun l => Wr.neI wH11856 (Or.inl (G_ne gaq ga0 (by decide))))) (fun l => Wr.neI wH11898 (Or.inl (G_ne glsq ga0 (by decide)))) (fun l => Wr.neI wH11898 (Or.inl (G_ne gl1 ga0 (by decide)))) (fun l => Wr.neI wH11898 (Or.inl (G_ne gl2 ga0 (by decide)))) (fun l => Wr.neI wH11898 (Or.inl (G_ne gl3 ga0 (by decide)))) (fun l => Wr.neI wH11898 (Or.inl (G_ne gf9 ga0 (by decide)))) (fun l => Wr.neI wH11898 (Or.inl (G_ne gf0 ga0 (by decide)))) (fun l => Wr.neI wH11898 (Or.inl (G_ne gf1 ga0 (by decide)))) (fun l => Wr.neI wH11898 (Or.inl (G_ne goq ga0 (by decide)))) (fun l => Wr.neI wH11898 (Or.inl (G_ne gaq ga0 (by decide))))) (fun l => Wr.neI wH11931 (Or.inl (G_ne glsq ga0 (by decide)))) (fun l => Wr.neI wH11931 (Or.inl (G_ne gl1 ga0 (by decide)))) (fun l => Wr.neI wH11931 (Or.inl (G_ne gl2 ga0 (by decide)))) (fun l => Wr.neI wH11931 (Or.inl (G_ne gl3 ga0 (by decide)))) (fun l => Wr.neI wH11931 (Or.inl (G_ne gf9 ga0 (by decide)))) (fun l => Wr.neI wH11931 (Or.inl (G_ne gf0 ga0 (by decide)))) (fun l => Wr.neI wH11931 (Or.inl (G_ne gf1 ga0 (by decide)))) (fun l => Wr.neI wH11931 (Or.inl (G_ne goq ga0 (by decide)))) (fun l => Wr.neI wH11931 (Or.inl (G_ne gaq ga0 (by decide))))) f11938), Or.inr ⟨(FRD.kept (FRD.kept (FRD.kept (FRD.trans m11834 frd9) (fun l => Wr.neI wH11856 (Or.inl (G_ne glsq ga0 (by decide)))) (fun l => Wr.neI wH11856 (Or.inl (G_ne gl1 ga0 (by decide)))) (fun l => Wr.neI wH11856 (Or.inl (G_ne gl2 ga0 (by decide)))) (fun l => Wr.neI wH11856 (Or.inl (G_ne gl3 ga0 (by decide)))) (fun l => Wr.neI wH11856 (Or.inl (G_ne gf9 ga0 (by decide)))) (fun l => Wr.neI wH11856 (Or.inl (G_ne gf0 ga0 (by decide)))) (fun l => Wr.neI wH11856 (Or.inl (G_ne gf1 ga0 (by decide)))) (fun l => Wr.neI wH11856 (Or.inl (G_ne goq ga0 (by decide)))) (fun l => Wr.neI wH11856 (Or.inl (G_ne gaq ga0 (by decide))))) (fun l => Wr.neI wH11898 (Or.inl (G_ne glsq ga0 (by decide)))) (fun l => Wr.neI wH11898 (Or.inl (G_ne gl1 ga0 (by decide)))) (fun l => Wr.neI wH11898 (Or.inl (G_ne gl2 ga0 (by decide)))) (fun l => Wr.neI wH11898 (Or.inl (G_ne gl3 ga0 (by decide)))) (fun l => Wr.neI wH11898 (Or.inl (G_ne gf9 ga0 (by decide)))) (fun l => Wr.neI wH11898 (Or.inl (G_ne gf0 ga0 (by decide)))) (fun l => Wr.neI wH11898 (Or.inl (G_ne gf1 ga0 (by decide)))) (fun l => Wr.neI wH11898 (Or.inl (G_ne goq ga0 (by decide)))) (fun l => Wr.neI wH11898 (Or.inl (G_ne gaq ga0 (by decide))))) (fun l => Wr.neI wH11931 (Or.inl (G_ne glsq ga0 (by decide)))) (fun l => Wr.neI wH11931 (Or.inl (G_ne gl1 ga0 (by decide)))) (fun l => Wr.neI wH11931 (Or.inl (G_ne gl2 ga0 (by decide)))) (fun l => Wr.neI wH11931 (Or.inl (G_ne gl3 ga0 (by decide)))) (fun l => Wr.neI wH11931 (Or.inl (G_ne gf9 ga0 (by decide)))) (fun l => Wr.neI wH11931 (Or.inl (G_ne gf0 ga0 (by decide)))) (fun l => Wr.neI wH11931 (Or.inl (G_ne gf1 ga0 (by decide)))) (fun l => Wr.neI wH11931 (Or.inl (G_ne goq ga0 (by decide)))) (fun l => Wr.neI wH11931 (Or.inl (G_ne gaq ga0 (by decide))))), f11938⟩, hTH11931⟩)
        · have k11661 := i_eq c11660
          exfalso
          omega
      · have k11657 := i_eq c11656
        exfalso
        omega
    · subst hvH11655
      refine W.eq (g2 := F0 m 26 ls [.int 0]) rfl ?_
      exfalso
      omega

set_option maxHeartbeats 4000000 in
set_option maxRecDepth 100000 in
theorem a_X10_text_gj (l : Launch) (K : KE) (G : Nat → Option Nat) (H : Heap) {a0 : Nat} (x1 : Int32) (x2 : Int32) {oq : Nat} {aq : Nat} {f9 : Nat} {f0 : Nat} {f1 : Nat} {mq : Nat} {tq : Nat} {l1 : Nat} {l2 : Nat} {l3 : Nat} {lsq : Nat} (mn : Int32) (tp : Int32) (bt : Nat → Int) (hT : TY K G H) (ga0 : G a0 = some 112) (hx1 : 1 ≤ x1.toInt ∧ x1.toInt ≤ 1) (hx2 : 0 ≤ x2.toInt ∧ x2.toInt ≤ 3) (goq : G oq = some 136) (eoq : @Eq Ad oq (fR H a0 (K.1.2 10 32))) (gaq : G aq = some 137) (eaq : @Eq Ad aq (fR H a0 (K.1.2 10 33))) (gf9 : G f9 = some 133) (ef9 : @Eq Ad f9 (fR H a0 (K.1.2 10 29))) (gf0 : G f0 = some 134) (ef0 : @Eq Ad f0 (fR H a0 (K.1.2 10 30))) (gf1 : G f1 = some 135) (ef1 : @Eq Ad f1 (fR H a0 (K.1.2 10 31))) (gmq : G mq = some 128) (emq : @Eq Ad mq (fR H a0 (K.1.2 10 24))) (gtq : G tq = some 126) (etq : @Eq Ad tq (fR H a0 (K.1.2 10 17))) (gl1 : G l1 = some 130) (el1 : @Eq Ad l1 (fR H a0 (K.1.2 10 26))) (gl2 : G l2 = some 131) (el2 : @Eq Ad l2 (fR H a0 (K.1.2 10 27))) (gl3 : G l3 = some 132) (el3 : @Eq Ad l3 (fR H a0 (K.1.2 10 28))) (glsq : G lsq = some 129) (elsq : @Eq Ad lsq (fR H a0 (K.1.2 10 25))) (emn : mn = fI H a0 (K.1.2 10 35)) (etp : tp = fI H a0 (K.1.2 10 18)) (hg_CG : CG (avw K H a0)) (hg_TU : TU (avw K H a0) (svw K H a0)) (hg_WD : WD (avw K H a0)) (hg_IM : IM (avw K H a0)) (hy0 : True) (hy1 : ∀ j : Nat, j < tp.toNatClampNeg → 0 ≤ bt j) (hv_bt : ∀ j : Nat, bt j = (fI H tq j).toInt) : MX l K yX10_text cX10_text 7 (some .int) 10 215 0 0 [.ref a0, .int x1, .int x2] H (AE G [112, 136, 137, 138, 129, 130, 131, 132, 133, 134, 135, 128] H.size) (fun v H1 => ∃ (r : Int32) (t0 : Int32) (t1 : Int32), v = some (.int r) ∧ t0 = fI H1 a0 (K.1.2 10 35) ∧ t1 = fI H1 a0 (K.1.2 10 18) ∧ (t1.toInt = 0) ∧ @Eq Ad oq (fR H1 a0 (K.1.2 10 32)) ∧ @Eq Ad aq (fR H1 a0 (K.1.2 10 33)) ∧ @Eq Ad f9 (fR H1 a0 (K.1.2 10 29)) ∧ @Eq Ad f0 (fR H1 a0 (K.1.2 10 30)) ∧ @Eq Ad f1 (fR H1 a0 (K.1.2 10 31)) ∧ @Eq Ad mq (fR H1 a0 (K.1.2 10 24)) ∧ @Eq Ad tq (fR H1 a0 (K.1.2 10 17)) ∧ @Eq Ad l1 (fR H1 a0 (K.1.2 10 26)) ∧ @Eq Ad l2 (fR H1 a0 (K.1.2 10 27)) ∧ @Eq Ad l3 (fR H1 a0 (K.1.2 10 28)) ∧ @Eq Ad lsq (fR H1 a0 (K.1.2 10 25)) ∧ (CG (avw K H1 a0)) ∧ (TU (avw K H1 a0) (svw K H1 a0)) ∧ (WD (avw K H1 a0)) ∧ (IM (avw K H1 a0)) ∧ MF K H H1 a0 [0, 18, 19, 20, 21, 22, 34, 35, 36, 38, 39, 40, 41, 42] ∧ (TXA bt tp.toNatClampNeg x1 x2 r) ∧ ((r.toInt = -1) ∨ (∃ n : Nat, r.toInt = (n : Int) ∧ n ≤ 16 ∧ fI H1 mq (2 + x2.toNatClampNeg) = r ∧ TXMR K H1 a0 (2 + x2.toNatClampNeg) (kK bt tp.toNatClampNeg) (vV bt tp.toNatClampNeg) 0 n)) ∧ (RWK H1 H lsq l1 l2 l3 f9 f0 f1 oq aq mq (2 + x2.toNatClampNeg)) ∧ ((r.toInt ≠ -1) ∨ (FRD H1 H lsq l1 l2 l3 f9 f0 f1 oq aq ∧ ∀ l, fI H1 mq l = fI H mq l)) ∧ TY K G H1) := by
  refine MX.of (by decide +kernel) (Nat.le_of_ble_eq_true rfl) ?_
  intro p e s m below meth c ls Q C hH hl hQ
  subst hH
  have C : CX p K s m _ meth c RX10 cX10_text 7 (some .int) "text" := C
  obtain ⟨hx, hb, hml, hown, hts, hKT, hr, hlocks, hnm⟩ := id C
  have hl : lv_has ls 7 [(0, .ref a0), (1, .int x1), (2, .int x2)] := hl
  have hS : va_S (AE G [112, 136, 137, 138, 129, 130, 131, 132, 133, 134, 135, 128] s.heap.size) s.heap s.heap [] := va_S.rf
  have n_m1 : ((-1) : Int32).toInt = -1 := rfl
  have n_0 : (0 : Int32).toInt = 0 := rfl
  have n_1 : (1 : Int32).toInt = 1 := rfl
  have n_2 : (2 : Int32).toInt = 2 := rfl
  have n_3 : (3 : Int32).toInt = 3 := rfl
  have n_16 : (16 : Int32).toInt = 16 := rfl
  have n_96 : (96 : Int32).toInt = 96 := rfl
  have n_500 : (500 : Int32).toInt = 500 := rfl
  have n_3000 : (3000 : Int32).toInt = 3000 := rfl
  have bmn := ty_fi (x := mn) (k := 35) emn hT ga0 rg_112 rfl
  have btp := ty_fi (x := tp) (k := 18) etp hT ga0 rg_112 rfl
  have hap : ∀ x y, x < 74 → y < 74 → x ≠ y → K.1.2 10 x ≠ K.1.2 10 y := x_apart hKT hts inX10 tyX10 tyX10_ok nmX10 rfl
  have mf0 : MF K s.heap s.heap a0 [0, 18, 19, 20, 21, 22, 34, 35, 36, 38, 39, 40, 41, 42] := fun _ _ _ => rfl
  replace eoq := EQN.mk eoq
  replace eaq := EQN.mk eaq
  replace ef9 := EQN.mk ef9
  replace ef0 := EQN.mk ef0
  replace ef1 := EQN.mk ef1
  replace emq := EQN.mk emq
  replace etq := EQN.mk etq
  replace el1 := EQN.mk el1
  replace el2 := EQN.mk el2
  replace el3 := EQN.mk el3
  replace elsq := EQN.mk elsq
  have f0_bt := hv_bt
  have f0_mo : ∀ j : Nat, fI s.heap mq j = fI s.heap mq j := fun _ => rfl
  have J149 : ∀  (ls11166 : Array Slot) (H11165 : Heap) (locsH11165 : List Loc) (x11168 : Int32) (x11169 : Int32) (x11170 : Int32) (x11171 : Int32), lv_has ls11166 7 [(0, .ref a0), (4, .int x11168), (5, .int x11169)] → TY K G H11165 → va_S (AE G [112, 136, 137, 138, 129, 130, 131, 132, 133, 134, 135, 128] s.heap.size) s.heap H11165 locsH11165 → (0 ≤ x11168.toInt ∧ x11168.toInt ≤ 16) → (2 ≤ x11169.toInt ∧ x11169.toInt ≤ 5) → (0 ≤ x11170.toInt ∧ x11170.toInt ≤ 500) → (0 ≤ x11171.toInt ∧ x11171.toInt ≤ 0) → (x11170 = fI H11165 a0 (K.1.2 10 35)) → (x11171 = fI H11165 a0 (K.1.2 10 18)) → (EQN oq (fR H11165 a0 (K.1.2 10 32))) → (EQN aq (fR H11165 a0 (K.1.2 10 33))) → (EQN f9 (fR H11165 a0 (K.1.2 10 29))) → (EQN f0 (fR H11165 a0 (K.1.2 10 30))) → (EQN f1 (fR H11165 a0 (K.1.2 10 31))) → (EQN mq (fR H11165 a0 (K.1.2 10 24))) → (EQN tq (fR H11165 a0 (K.1.2 10 17))) → (EQN l1 (fR H11165 a0 (K.1.2 10 26))) → (EQN l2 (fR H11165 a0 (K.1.2 10 27))) → (EQN l3 (fR H11165 a0 (K.1.2 10 28))) → (EQN lsq (fR H11165 a0 (K.1.2 10 25))) → (MF K s.heap H11165 a0 [0, 18, 19, 20, 21, 22, 34, 35, 36, 38, 39, 40, 41, 42]) → (CG (avw K H11165 a0)) → (TU (avw K H11165 a0) (svw K H11165 a0)) → (WD (avw K H11165 a0)) → (IM (avw K H11165 a0)) → (∀ j : Nat, bt j = (fI H11165 tq j).toInt) → (∀ j : Nat, fI H11165 mq j = fI s.heap mq j) → (x11171.toInt = 0 ∧ x11169.toInt = x2.toInt + 2) → (DL (fun k => fI H11165 f9 k) (fun k => fI H11165 f0 k) (fun k => fI H11165 f1 k) (fun k => fI H11165 oq k) (fun k => fI H11165 aq k) x11168.toNatClampNeg x11170.toInt) → (HD (TXA bt tp.toNatClampNeg x1 x2 x11168)) → (HD (∃ i, TXRW H11165 lsq l1 l2 l3 f9 f0 f1 oq aq (kK bt tp.toNatClampNeg) (vV bt tp.toNatClampNeg) 0 x11168.toNatClampNeg i x11170.toNatClampNeg)) → (HD (FRD H11165 s.heap lsq l1 l2 l3 f9 f0 f1 oq aq)) → W p l e ({ frames := 10, cells := 0, slots := 0, locals := 215 } : Room) s m (([.ref a0, .int x1, .int x2] : List Value).toArray) below meth c H11165 locsH11165 0 0 Q (F0 m 149 ls11166 []) := by
    intro  ls11166 H11165 locsH11165 x11168 x11169 x11170 x11171 hl11167 hTH11165 hSH11165 bx11168 bx11169 bx11170 bx11171 ex11170 ex11171 cy11172_0 cy11172_1 cy11172_2 cy11172_3 cy11172_4 cy11172_5 cy11172_6 cy11172_7 cy11172_8 cy11172_9 cy11172_10 mfy11172 gy11172_CG gy11172_TU gy11172_WD gy11172_IM fy11172_bt fy11172_mo iv149 hDL htx149 hTR149 hFR149
    have J329 : ∀ (nf : Nat) (ls11174 : Array Slot) (H11173 : Heap) (locsH11173 : List Loc) (x11176 : Int32) (x11177 : Int32) (x11178 : Int32), lv_has ls11174 7 [(0, .ref a0), (4, .int x11168), (5, .int x11169), (6, .int x11176)] → TY K G H11173 → va_S (AE G [112, 136, 137, 138, 129, 130, 131, 132, 133, 134, 135, 128] s.heap.size) s.heap H11173 locsH11173 → (0 ≤ x11176.toInt ∧ x11176.toInt ≤ 500) → (0 ≤ x11177.toInt ∧ x11177.toInt ≤ 500) → (0 ≤ x11178.toInt ∧ x11178.toInt ≤ 0) → (x11177 = fI H11173 a0 (K.1.2 10 35)) → (x11178 = fI H11173 a0 (K.1.2 10 18)) → (EQN oq (fR H11173 a0 (K.1.2 10 32))) → (EQN aq (fR H11173 a0 (K.1.2 10 33))) → (EQN f9 (fR H11173 a0 (K.1.2 10 29))) → (EQN f0 (fR H11173 a0 (K.1.2 10 30))) → (EQN f1 (fR H11173 a0 (K.1.2 10 31))) → (EQN mq (fR H11173 a0 (K.1.2 10 24))) → (EQN tq (fR H11173 a0 (K.1.2 10 17))) → (EQN l1 (fR H11173 a0 (K.1.2 10 26))) → (EQN l2 (fR H11173 a0 (K.1.2 10 27))) → (EQN l3 (fR H11173 a0 (K.1.2 10 28))) → (EQN lsq (fR H11173 a0 (K.1.2 10 25))) → (CP (fun k => fI H11173 f9 k) (fun k => fI H11165 f9 k) (16 * x11169.toNatClampNeg) (96) (x11168.toNatClampNeg)) → (CP (fun k => fI H11173 f0 k) (fun k => fI H11165 f0 k) (16 * x11169.toNatClampNeg) (96) (x11168.toNatClampNeg)) → (CP (fun k => fI H11173 f1 k) (fun k => fI H11165 f1 k) (16 * x11169.toNatClampNeg) (96) (x11168.toNatClampNeg)) → (CP (fun k => fI H11173 oq k) (fun k => fI H11165 oq k) (500 * x11169.toNatClampNeg) (3000) (x11176.toNatClampNeg)) → (CP (fun k => fI H11173 aq k) (fun k => fI H11165 aq k) (500 * x11169.toNatClampNeg) (3000) (x11176.toNatClampNeg)) → (CP (fun k => fI H11173 mq k) (fun k => fI H11165 mq k) (0) (0) (0)) → (CP (fun k => fI H11173 lsq k) (fun k => fI H11165 lsq k) (16 * x11169.toNatClampNeg) (96) (x11168.toNatClampNeg)) → (CP (fun k => fI H11173 l1 k) (fun k => fI H11165 l1 k) (16 * x11169.toNatClampNeg) (96) (x11168.toNatClampNeg)) → (CP (fun k => fI H11173 l2 k) (fun k => fI H11165 l2 k) (16 * x11169.toNatClampNeg) (96) (x11168.toNatClampNeg)) → (CP (fun k => fI H11173 l3 k) (fun k => fI H11165 l3 k) (16 * x11169.toNatClampNeg) (96) (x11168.toNatClampNeg)) → (MF K s.heap H11173 a0 [0, 18, 19, 20, 21, 22, 34, 35, 36, 38, 39, 40, 41, 42]) → (TU (avw K H11173 a0) (svw K H11173 a0)) → (WD (avw K H11173 a0)) → (IM (avw K H11173 a0)) → (∀ j : Nat, bt j = (fI H11173 tq j).toInt) → (∀ j : Nat, fI H11173 mq j = fI s.heap mq j) → (500 - x11176.toInt < (nf : Int)) → (x11177.toInt = x11170.toInt ∧ x11178.toInt = 0) → W p l e ({ frames := 10, cells := 0, slots := 0, locals := 215 } : Room) s m (([.ref a0, .int x1, .int x2] : List Value).toArray) below meth c H11173 locsH11173 0 0 Q (F0 m 329 ls11174 []) := by
      intro nf
      induction nf with
      | zero =>
        intro ls11174 H11173 locsH11173 x11176 x11177 x11178 hl11175 hTH11173 hSH11173 bx11176 bx11177 bx11178 ex11177 ex11178 cy11179_0 cy11179_1 cy11179_2 cy11179_3 cy11179_4 cy11179_5 cy11179_6 cy11179_7 cy11179_8 cy11179_9 cy11179_10 by11179_c9 by11179_c0 by11179_c1 by11179_co by11179_ca by11179_cm by11179_cs by11179_cA by11179_cB by11179_cD mfy11179 gy11179_TU gy11179_WD gy11179_IM fy11179_bt fy11179_mo hm329 iv329
        exfalso
        omega
      | succ nf ih329 =>
        intro ls11174 H11173 locsH11173 x11176 x11177 x11178 hl11175 hTH11173 hSH11173 bx11176 bx11177 bx11178 ex11177 ex11178 cy11179_0 cy11179_1 cy11179_2 cy11179_3 cy11179_4 cy11179_5 cy11179_6 cy11179_7 cy11179_8 cy11179_9 cy11179_10 by11179_c9 by11179_c0 by11179_c1 by11179_co by11179_ca by11179_cm by11179_cs by11179_cA by11179_cB by11179_cD mfy11179 gy11179_TU gy11179_WD gy11179_IM fy11179_bt fy11179_mo hm329 iv329
        refine lv_iload hx hb dX10_text_329 (lv_at hl11175 3 rfl) ?_
        refine lv_aload_n hx hb dX10_text_331 rfl (lv_at hl11175 0 rfl) ?_
        refine x_gi C hTH11173 (ci := 10) (k := 35) rfl inX10 (by decide) wF_X10_228 ga0 rg_112 rfl dX10_text_332 (fun x11180 ex11180 bx11180 => ?_)
        have ux11180 : x11177 = x11180 := (ex11177).trans ex11180.symm
        subst ux11180
        refine lv_icmp_ge (tgt := 394) hx hb dX10_text_335 (by decide) (fun c11181 => ?_) (fun c11181 => ?_)
        · have k11182 := i_le c11181
          refine lv_aload_n hx hb dX10_text_394 rfl (lv_at hl11175 0 rfl) ?_
          refine x_gr C hTH11173 (ci := 10) (k := 24) rfl inX10 (by decide) wF_X10_59 ga0 rg_112 rfl dX10_text_395 (fun q11183 eq11183 gq11183 => ?_)
          have uq11183 : mq = q11183 := (cy11179_5).trans eq11183.symm
          subst uq11183
          clear eq11183
          refine lv_iload hx hb dX10_text_398 (lv_at hl11175 2 rfl) ?_
          refine lv_iload hx hb dX10_text_400 (lv_at hl11175 1 rfl) ?_
          have mo9 := fy11179_mo
          refine x_iast C hTH11173 hSH11173 gmq rg_128 (Int.le_trans (by decide) bx11169.1) (Int.lt_of_le_of_lt bx11169.2 (by decide)) ⟨Int.le_trans (by decide) bx11168.1, Int.le_trans bx11168.2 (by decide)⟩ (AE_in gmq (by decide)) dX10_text_402 (fun H11184 locsH11184 hTH11184 hSH11184 wH11184 => ?_)
          have mf11185 : MF K s.heap H11184 a0 [0, 18, 19, 20, 21, 22, 34, 35, 36, 38, 39, 40, 41, 42] := MF.arr wH11184 (G_ne ga0 gmq (by decide)) mfy11179
          have g11186 : TU (avw K H11184 a0) (svw K H11184 a0) := TU.congr (fun k hk j => av_arr hTH11173 ga0 wH11184 gmq (by decide) (TU_ok 128 (by decide) k hk)) (fun k hk => sv_arr ga0 wH11184 gmq (by decide)) gy11179_TU
          have g11187 : WD (avw K H11184 a0) := WD.congr (fun k hk j => av_arr hTH11173 ga0 wH11184 gmq (by decide) (WD_ok 128 (by decide) k hk)) gy11179_WD
          have g11188 : IM (avw K H11184 a0) := IM.congr (fun k hk j => av_arr hTH11173 ga0 wH11184 gmq (by decide) (IM_ok 128 (by decide) k hk)) gy11179_IM
          have b11189 : CP (fun k => fI H11184 f9 k) (fun k => fI H11165 f9 k) (16 * x11169.toNatClampNeg) (96) (x11168.toNatClampNeg) := CP.congr (fun j => Wr.neI wH11184 (Or.inl (G_ne gf9 gmq (by decide)))) by11179_c9
          have b11190 : CP (fun k => fI H11184 f0 k) (fun k => fI H11165 f0 k) (16 * x11169.toNatClampNeg) (96) (x11168.toNatClampNeg) := CP.congr (fun j => Wr.neI wH11184 (Or.inl (G_ne gf0 gmq (by decide)))) by11179_c0
          have b11191 : CP (fun k => fI H11184 f1 k) (fun k => fI H11165 f1 k) (16 * x11169.toNatClampNeg) (96) (x11168.toNatClampNeg) := CP.congr (fun j => Wr.neI wH11184 (Or.inl (G_ne gf1 gmq (by decide)))) by11179_c1
          have b11192 : CP (fun k => fI H11184 oq k) (fun k => fI H11165 oq k) (500 * x11169.toNatClampNeg) (3000) (x11176.toNatClampNeg) := CP.congr (fun j => Wr.neI wH11184 (Or.inl (G_ne goq gmq (by decide)))) by11179_co
          have b11193 : CP (fun k => fI H11184 aq k) (fun k => fI H11165 aq k) (500 * x11169.toNatClampNeg) (3000) (x11176.toNatClampNeg) := CP.congr (fun j => Wr.neI wH11184 (Or.inl (G_ne gaq gmq (by decide)))) by11179_ca
          have b11194 : CP (fun k => fI H11184 lsq k) (fun k => fI H11165 lsq k) (16 * x11169.toNatClampNeg) (96) (x11168.toNatClampNeg) := CP.congr (fun j => Wr.neI wH11184 (Or.inl (G_ne glsq gmq (by decide)))) by11179_cs
          have b11195 : CP (fun k => fI H11184 l1 k) (fun k => fI H11165 l1 k) (16 * x11169.toNatClampNeg) (96) (x11168.toNatClampNeg) := CP.congr (fun j => Wr.neI wH11184 (Or.inl (G_ne gl1 gmq (by decide)))) by11179_cA
          have b11196 : CP (fun k => fI H11184 l2 k) (fun k => fI H11165 l2 k) (16 * x11169.toNatClampNeg) (96) (x11168.toNatClampNeg) := CP.congr (fun j => Wr.neI wH11184 (Or.inl (G_ne gl2 gmq (by decide)))) by11179_cB
          have b11197 : CP (fun k => fI H11184 l3 k) (fun k => fI H11165 l3 k) (16 * x11169.toNatClampNeg) (96) (x11168.toNatClampNeg) := CP.congr (fun j => Wr.neI wH11184 (Or.inl (G_ne gl3 gmq (by decide)))) by11179_cD
          have f11198 : ∀ j : Nat, bt j = (fI H11184 tq j).toInt := fun j => (fy11179_bt j).trans (congrArg Int32.toInt (Wr.neI wH11184 (Or.inl (G_ne gtq gmq (by decide)))).symm)
          have m11199 := ex11177.trans (Wr.neI wH11184 (Or.inl (G_ne ga0 gmq (by decide)))).symm
          have m11200 := ex11178.trans (Wr.neI wH11184 (Or.inl (G_ne ga0 gmq (by decide)))).symm
          have m11201 := cy11179_0.trans (Wr.neR wH11184 (Or.inl (G_ne ga0 gmq (by decide)))).symm
          have m11202 := cy11179_1.trans (Wr.neR wH11184 (Or.inl (G_ne ga0 gmq (by decide)))).symm
          have m11203 := cy11179_2.trans (Wr.neR wH11184 (Or.inl (G_ne ga0 gmq (by decide)))).symm
          have m11204 := cy11179_3.trans (Wr.neR wH11184 (Or.inl (G_ne ga0 gmq (by decide)))).symm
          have m11205 := cy11179_4.trans (Wr.neR wH11184 (Or.inl (G_ne ga0 gmq (by decide)))).symm
          have m11206 := cy11179_5.trans (Wr.neR wH11184 (Or.inl (G_ne ga0 gmq (by decide)))).symm
          have m11207 := cy11179_6.trans (Wr.neR wH11184 (Or.inl (G_ne ga0 gmq (by decide)))).symm
          have m11208 := cy11179_7.trans (Wr.neR wH11184 (Or.inl (G_ne ga0 gmq (by decide)))).symm
          have m11209 := cy11179_8.trans (Wr.neR wH11184 (Or.inl (G_ne ga0 gmq (by decide)))).symm
          have m11210 := cy11179_9.trans (Wr.neR wH11184 (Or.inl (G_ne ga0 gmq (by decide)))).symm
          have m11211 := cy11179_10.trans (Wr.neR wH11184 (Or.inl (G_ne ga0 gmq (by decide)))).symm
          have m11212 := Wr.I wH11184
          have m11212 := m11212.symm
          clear by11179_c0 by11179_c1 by11179_c9 by11179_cA by11179_cB by11179_cD by11179_ca by11179_co by11179_cs cy11179_0 cy11179_1 cy11179_10 cy11179_2 cy11179_3 cy11179_4 cy11179_5 cy11179_6 cy11179_7 cy11179_8 cy11179_9 ex11177 ex11178 fy11179_bt fy11179_mo gy11179_IM gy11179_TU gy11179_WD hTH11173 mfy11179
          have cf_x11168 := i_cl (x := x11168) bx11168.1
          have cf_x11169 := i_cl (x := x11169) (Int.le_trans (by decide) bx11169.1)
          have cf_x11176 := i_cl (x := x11176) bx11176.1
          have cf_x11177 := i_cl (x := x11177) bx11177.1
          have cgz : CG (avw K H11184 a0) := CG.fin (row := x11169.toNatClampNeg) (n := x11168.toNatClampNeg) (i := x11176.toNatClampNeg) hTH11165 ga0 cy11172_5 cy11172_2 cy11172_3 cy11172_4 cy11172_0 cy11172_1 m11206 m11203 m11204 m11205 m11201 m11202 gy11172_CG  hDL (by omega) (by omega) (by omega) (by omega) (CP.cast b11189 (by omega) (by omega) (by omega)) (CP.cast b11190 (by omega) (by omega) (by omega)) (CP.cast b11191 (by omega) (by omega) (by omega)) (CP.cast b11192 (by omega) (by omega) (by omega)) (CP.cast b11193 (by omega) (by omega) (by omega)) (by rw [Wr.I wH11184]; omega) (fun j hj => (Wr.neI wH11184 (Or.inr hj)).trans (by11179_cm.2 j (Or.inr (by omega))))
          refine lv_iload hx hb dX10_text_403 (lv_at hl11175 1 rfl) ?_
          have cn_x11169 := i_cl (x := x11169) (Int.le_trans (by decide) bx11169.1)
          have cn_x11168 := i_cl (x := x11168) bx11168.1
          have cn_x11177 := i_cl (x := x11177) bx11177.1
          have cn_x11176 := i_cl (x := x11176) bx11176.1
          have cn_x2 := i_cl (x := x2) (by omega)
          have cn_x11170 := i_cl (x := x11170) bx11170.1
          obtain ⟨ti_, htr_⟩ := HD.get hTR149
          have cps_ : CP (fun k => fI H11184 lsq k) (fun k => fI H11165 lsq k) (16 * (2 + x2.toNatClampNeg)) 96 x11168.toNatClampNeg ∧ CP (fun k => fI H11184 l1 k) (fun k => fI H11165 l1 k) (16 * (2 + x2.toNatClampNeg)) 96 x11168.toNatClampNeg ∧ CP (fun k => fI H11184 l2 k) (fun k => fI H11165 l2 k) (16 * (2 + x2.toNatClampNeg)) 96 x11168.toNatClampNeg ∧ CP (fun k => fI H11184 l3 k) (fun k => fI H11165 l3 k) (16 * (2 + x2.toNatClampNeg)) 96 x11168.toNatClampNeg ∧ CP (fun k => fI H11184 f9 k) (fun k => fI H11165 f9 k) (16 * (2 + x2.toNatClampNeg)) 96 x11168.toNatClampNeg ∧ CP (fun k => fI H11184 f0 k) (fun k => fI H11165 f0 k) (16 * (2 + x2.toNatClampNeg)) 96 x11168.toNatClampNeg ∧ CP (fun k => fI H11184 f1 k) (fun k => fI H11165 f1 k) (16 * (2 + x2.toNatClampNeg)) 96 x11168.toNatClampNeg ∧ CP (fun k => fI H11184 oq k) (fun k => fI H11165 oq k) (500 * (2 + x2.toNatClampNeg)) 3000 x11176.toNatClampNeg ∧ CP (fun k => fI H11184 aq k) (fun k => fI H11165 aq k) (500 * (2 + x2.toNatClampNeg)) 3000 x11176.toNatClampNeg := ⟨CP.cast b11194 (by omega) rfl (by omega), CP.cast b11195 (by omega) rfl (by omega), CP.cast b11196 (by omega) rfl (by omega), CP.cast b11197 (by omega) rfl (by omega), CP.cast b11189 (by omega) rfl (by omega), CP.cast b11190 (by omega) rfl (by omega), CP.cast b11191 (by omega) rfl (by omega), CP.cast b11192 (by omega) rfl (by omega), CP.cast b11193 (by omega) rfl (by omega)⟩
          obtain ⟨cp0_, cp1_, cp2_, cp3_, cp4_, cp5_, cp6_, cp7_, cp8_⟩ := cps_
          have rwe_ : x11169.toNatClampNeg = (2 + x2.toNatClampNeg) := by omega
          have mq1_ : fI H11184 mq (2 + x2.toNatClampNeg) = x11168 := by rw [← rwe_]; exact Wr.I wH11184
          have mq2_ : ∀ l, l ≠ (2 + x2.toNatClampNeg) → fI H11184 mq l = fI s.heap mq l := fun l hl => (Wr.neI wH11184 (Or.inr (by rw [rwe_]; exact hl))).trans (mo9 l)
          exact x_iret C hQ dX10_text_405 hSH11184 (by decide) (by decide) (⟨x11168, x11177, x11178, rfl, m11199, m11200, by omega, m11201, m11202, m11203, m11204, m11205, m11206, m11207, m11208, m11209, m11210, m11211, cgz, g11186, g11187, g11188, mf11185, ((HD.get htx149).cast (by omega)), Or.inr ⟨x11168.toNatClampNeg, by omega, by omega, mq1_, TXRW.fin htr_ rfl (by omega) cp0_ cp1_ cp2_ cp3_ cp4_ cp5_ cp6_ cp7_ cp8_ m11211 m11208 m11209 m11210 m11203 m11204 m11205 m11201 m11202⟩, (RWK.fin (HD.get hFR149) (by omega) (by omega) cp0_ cp1_ cp2_ cp3_ cp4_ cp5_ cp6_ cp7_ cp8_ mq2_), Or.inl (by omega), hTH11184⟩)
        · have k11182 := i_nle c11181
          have hrw : 0 ≤ x11169.toInt ∧ x11169.toInt ≤ 5 := ⟨by omega, by omega⟩
          have hlw : 0 ≤ x11176.toInt ∧ x11176.toInt ≤ 499 := ⟨by omega, by omega⟩
          refine lv_aload_n hx hb dX10_text_338 rfl (lv_at hl11175 0 rfl) ?_
          refine x_gr C hTH11173 (ci := 10) (k := 32) rfl inX10 (by decide) wF_X10_83 ga0 rg_112 rfl dX10_text_339 (fun q11213 eq11213 gq11213 => ?_)
          have uq11213 : oq = q11213 := (cy11179_0).trans eq11213.symm
          subst uq11213
          clear eq11213
          refine lv_sipush (v := 500) hx hb dX10_text_342 (by decide) ?_
          refine lv_iload hx hb dX10_text_345 (lv_at hl11175 2 rfl) ?_
          refine lv_imul hx hb dX10_text_347 ?_
          refine lv_topi (fun x11214 ex11214 => ?_)
          have tx11214 := i_mul ex11214 (by rw [n_500]; omega)
          rw [n_500] at tx11214
          refine lv_iload hx hb dX10_text_348 (lv_at hl11175 3 rfl) ?_
          refine lv_iadd hx hb dX10_text_350 ?_
          refine lv_topi (fun x11215 ex11215 => ?_)
          have tx11215 := i_add ex11215 (by omega)
          refine lv_aload_n hx hb dX10_text_351 rfl (lv_at hl11175 0 rfl) ?_
          refine x_gr C hTH11173 (ci := 10) (k := 32) rfl inX10 (by decide) wF_X10_83 ga0 rg_112 rfl dX10_text_352 (fun q11216 eq11216 gq11216 => ?_)
          have uq11216 : oq = q11216 := (cy11179_0).trans eq11216.symm
          subst uq11216
          clear eq11216
          refine lv_sipush (v := 3000) hx hb dX10_text_355 (by decide) ?_
          refine lv_iload hx hb dX10_text_358 (lv_at hl11175 3 rfl) ?_
          refine lv_iadd hx hb dX10_text_360 ?_
          refine lv_topi (fun x11217 ex11217 => ?_)
          have tx11217 := i_add ex11217 (by omega)
          refine x_ai C hTH11173 goq rg_136 ⟨by omega, by show _ < ((3500 : Nat) : Int); omega⟩ dX10_text_361 (fun x11218 ex11218 bx11218 => ?_)
          refine x_iast C hTH11173 hSH11173 goq rg_136 (by omega) (by show _ < ((3500 : Nat) : Int); omega) (i_rng x11218) (AE_in goq (by decide)) dX10_text_362 (fun H11219 locsH11219 hTH11219 hSH11219 wH11219 => ?_)
          have mf11220 : MF K s.heap H11219 a0 [0, 18, 19, 20, 21, 22, 34, 35, 36, 38, 39, 40, 41, 42] := MF.arr wH11219 (G_ne ga0 goq (by decide)) mfy11179
          have g11221 : TU (avw K H11219 a0) (svw K H11219 a0) := TU.congr (fun k hk j => av_arr hTH11173 ga0 wH11219 goq (by decide) (TU_ok 136 (by decide) k hk)) (fun k hk => sv_arr ga0 wH11219 goq (by decide)) gy11179_TU
          have g11222 : WD (avw K H11219 a0) := WD.congr (fun k hk j => av_arr hTH11173 ga0 wH11219 goq (by decide) (WD_ok 136 (by decide) k hk)) gy11179_WD
          have g11223 : IM (avw K H11219 a0) := IM.congr (fun k hk j => av_arr hTH11173 ga0 wH11219 goq (by decide) (IM_ok 136 (by decide) k hk)) gy11179_IM
          have b11224 : CP (fun k => fI H11219 f9 k) (fun k => fI H11165 f9 k) (16 * x11169.toNatClampNeg) (96) (x11168.toNatClampNeg) := CP.congr (fun j => Wr.neI wH11219 (Or.inl (G_ne gf9 goq (by decide)))) by11179_c9
          have b11225 : CP (fun k => fI H11219 f0 k) (fun k => fI H11165 f0 k) (16 * x11169.toNatClampNeg) (96) (x11168.toNatClampNeg) := CP.congr (fun j => Wr.neI wH11219 (Or.inl (G_ne gf0 goq (by decide)))) by11179_c0
          have b11226 : CP (fun k => fI H11219 f1 k) (fun k => fI H11165 f1 k) (16 * x11169.toNatClampNeg) (96) (x11168.toNatClampNeg) := CP.congr (fun j => Wr.neI wH11219 (Or.inl (G_ne gf1 goq (by decide)))) by11179_c1
          have b11227 : CP (fun k => fI H11219 oq k) (fun k => fI H11165 oq k) (500 * x11169.toNatClampNeg) (3000) (x11176.toNatClampNeg + 1) := CP.step by11179_co (i := x11215.toNatClampNeg) (k := x11217.toNatClampNeg) (x := x11218) (ix500 tx11214 tx11215 hrw.1 hlw.1) (le500 hrw hlw) (ixk n_3000 tx11217 hlw.1) ex11218 (Wr.I wH11219) (fun j hj => Wr.neI wH11219 (Or.inr hj))
          have b11228 : CP (fun k => fI H11219 aq k) (fun k => fI H11165 aq k) (500 * x11169.toNatClampNeg) (3000) (x11176.toNatClampNeg) := CP.congr (fun j => Wr.neI wH11219 (Or.inl (G_ne gaq goq (by decide)))) by11179_ca
          have b11229 : CP (fun k => fI H11219 mq k) (fun k => fI H11165 mq k) (0) (0) (0) := CP.congr (fun j => Wr.neI wH11219 (Or.inl (G_ne gmq goq (by decide)))) by11179_cm
          have b11230 : CP (fun k => fI H11219 lsq k) (fun k => fI H11165 lsq k) (16 * x11169.toNatClampNeg) (96) (x11168.toNatClampNeg) := CP.congr (fun j => Wr.neI wH11219 (Or.inl (G_ne glsq goq (by decide)))) by11179_cs
          have b11231 : CP (fun k => fI H11219 l1 k) (fun k => fI H11165 l1 k) (16 * x11169.toNatClampNeg) (96) (x11168.toNatClampNeg) := CP.congr (fun j => Wr.neI wH11219 (Or.inl (G_ne gl1 goq (by decide)))) by11179_cA
          have b11232 : CP (fun k => fI H11219 l2 k) (fun k => fI H11165 l2 k) (16 * x11169.toNatClampNeg) (96) (x11168.toNatClampNeg) := CP.congr (fun j => Wr.neI wH11219 (Or.inl (G_ne gl2 goq (by decide)))) by11179_cB
          have b11233 : CP (fun k => fI H11219 l3 k) (fun k => fI H11165 l3 k) (16 * x11169.toNatClampNeg) (96) (x11168.toNatClampNeg) := CP.congr (fun j => Wr.neI wH11219 (Or.inl (G_ne gl3 goq (by decide)))) by11179_cD
          have f11234 : ∀ j : Nat, bt j = (fI H11219 tq j).toInt := fun j => (fy11179_bt j).trans (congrArg Int32.toInt (Wr.neI wH11219 (Or.inl (G_ne gtq goq (by decide)))).symm)
          have f11235 : ∀ j : Nat, fI H11219 mq j = fI s.heap mq j := fun j => (Wr.neI wH11219 (Or.inl (G_ne gmq goq (by decide)))).trans (fy11179_mo j)
          have m11236 := ex11177.trans (Wr.neI wH11219 (Or.inl (G_ne ga0 goq (by decide)))).symm
          have m11237 := ex11178.trans (Wr.neI wH11219 (Or.inl (G_ne ga0 goq (by decide)))).symm
          have m11238 := cy11179_0.trans (Wr.neR wH11219 (Or.inl (G_ne ga0 goq (by decide)))).symm
          have m11239 := cy11179_1.trans (Wr.neR wH11219 (Or.inl (G_ne ga0 goq (by decide)))).symm
          have m11240 := cy11179_2.trans (Wr.neR wH11219 (Or.inl (G_ne ga0 goq (by decide)))).symm
          have m11241 := cy11179_3.trans (Wr.neR wH11219 (Or.inl (G_ne ga0 goq (by decide)))).symm
          have m11242 := cy11179_4.trans (Wr.neR wH11219 (Or.inl (G_ne ga0 goq (by decide)))).symm
          have m11243 := cy11179_5.trans (Wr.neR wH11219 (Or.inl (G_ne ga0 goq (by decide)))).symm
          have m11244 := cy11179_6.trans (Wr.neR wH11219 (Or.inl (G_ne ga0 goq (by decide)))).symm
          have m11245 := cy11179_7.trans (Wr.neR wH11219 (Or.inl (G_ne ga0 goq (by decide)))).symm
          have m11246 := cy11179_8.trans (Wr.neR wH11219 (Or.inl (G_ne ga0 goq (by decide)))).symm
          have m11247 := cy11179_9.trans (Wr.neR wH11219 (Or.inl (G_ne ga0 goq (by decide)))).symm
          have m11248 := cy11179_10.trans (Wr.neR wH11219 (Or.inl (G_ne ga0 goq (by decide)))).symm
          have m11250 := Wr.I wH11219
          have m11250 := m11250.symm
          clear by11179_c0 by11179_c1 by11179_c9 by11179_cA by11179_cB by11179_cD by11179_ca by11179_co by11179_cs cy11179_0 cy11179_1 cy11179_10 cy11179_2 cy11179_3 cy11179_4 cy11179_5 cy11179_6 cy11179_7 cy11179_8 cy11179_9 ex11177 ex11178 ex11218 fy11179_bt fy11179_mo gy11179_IM gy11179_TU gy11179_WD hTH11173 mfy11179
          clear tx11214 tx11215 tx11217 bx11218 ex11214 ex11215 ex11217
          refine lv_aload_n hx hb dX10_text_363 rfl (lv_at hl11175 0 rfl) ?_
          refine x_gr C hTH11219 (ci := 10) (k := 33) rfl inX10 (by decide) wF_X10_86 ga0 rg_112 rfl dX10_text_364 (fun q11251 eq11251 gq11251 => ?_)
          have uq11251 : aq = q11251 := (m11239).trans eq11251.symm
          subst uq11251
          clear eq11251
          refine lv_sipush (v := 500) hx hb dX10_text_367 (by decide) ?_
          refine lv_iload hx hb dX10_text_370 (lv_at hl11175 2 rfl) ?_
          refine lv_imul hx hb dX10_text_372 ?_
          refine lv_topi (fun x11252 ex11252 => ?_)
          have tx11252 := i_mul ex11252 (by rw [n_500]; omega)
          rw [n_500] at tx11252
          refine lv_iload hx hb dX10_text_373 (lv_at hl11175 3 rfl) ?_
          refine lv_iadd hx hb dX10_text_375 ?_
          refine lv_topi (fun x11253 ex11253 => ?_)
          have tx11253 := i_add ex11253 (by omega)
          refine lv_aload_n hx hb dX10_text_376 rfl (lv_at hl11175 0 rfl) ?_
          refine x_gr C hTH11219 (ci := 10) (k := 33) rfl inX10 (by decide) wF_X10_86 ga0 rg_112 rfl dX10_text_377 (fun q11254 eq11254 gq11254 => ?_)
          have uq11254 : aq = q11254 := (m11239).trans eq11254.symm
          subst uq11254
          clear eq11254
          refine lv_sipush (v := 3000) hx hb dX10_text_380 (by decide) ?_
          refine lv_iload hx hb dX10_text_383 (lv_at hl11175 3 rfl) ?_
          refine lv_iadd hx hb dX10_text_385 ?_
          refine lv_topi (fun x11255 ex11255 => ?_)
          have tx11255 := i_add ex11255 (by omega)
          refine x_ai C hTH11219 gaq rg_137 ⟨by omega, by show _ < ((3500 : Nat) : Int); omega⟩ dX10_text_386 (fun x11256 ex11256 bx11256 => ?_)
          refine x_iast C hTH11219 hSH11219 gaq rg_137 (by omega) (by show _ < ((3500 : Nat) : Int); omega) (i_rng x11256) (AE_in gaq (by decide)) dX10_text_387 (fun H11257 locsH11257 hTH11257 hSH11257 wH11257 => ?_)
          have mf11258 : MF K s.heap H11257 a0 [0, 18, 19, 20, 21, 22, 34, 35, 36, 38, 39, 40, 41, 42] := MF.arr wH11257 (G_ne ga0 gaq (by decide)) mf11220
          have g11259 : TU (avw K H11257 a0) (svw K H11257 a0) := TU.congr (fun k hk j => av_arr hTH11219 ga0 wH11257 gaq (by decide) (TU_ok 137 (by decide) k hk)) (fun k hk => sv_arr ga0 wH11257 gaq (by decide)) g11221
          have g11260 : WD (avw K H11257 a0) := WD.congr (fun k hk j => av_arr hTH11219 ga0 wH11257 gaq (by decide) (WD_ok 137 (by decide) k hk)) g11222
          have g11261 : IM (avw K H11257 a0) := IM.congr (fun k hk j => av_arr hTH11219 ga0 wH11257 gaq (by decide) (IM_ok 137 (by decide) k hk)) g11223
          have b11262 : CP (fun k => fI H11257 f9 k) (fun k => fI H11165 f9 k) (16 * x11169.toNatClampNeg) (96) (x11168.toNatClampNeg) := CP.congr (fun j => Wr.neI wH11257 (Or.inl (G_ne gf9 gaq (by decide)))) b11224
          have b11263 : CP (fun k => fI H11257 f0 k) (fun k => fI H11165 f0 k) (16 * x11169.toNatClampNeg) (96) (x11168.toNatClampNeg) := CP.congr (fun j => Wr.neI wH11257 (Or.inl (G_ne gf0 gaq (by decide)))) b11225
          have b11264 : CP (fun k => fI H11257 f1 k) (fun k => fI H11165 f1 k) (16 * x11169.toNatClampNeg) (96) (x11168.toNatClampNeg) := CP.congr (fun j => Wr.neI wH11257 (Or.inl (G_ne gf1 gaq (by decide)))) b11226
          have b11265 : CP (fun k => fI H11257 oq k) (fun k => fI H11165 oq k) (500 * x11169.toNatClampNeg) (3000) (x11176.toNatClampNeg + 1) := CP.congr (fun j => Wr.neI wH11257 (Or.inl (G_ne goq gaq (by decide)))) b11227
          have b11266 : CP (fun k => fI H11257 aq k) (fun k => fI H11165 aq k) (500 * x11169.toNatClampNeg) (3000) (x11176.toNatClampNeg + 1) := CP.step b11228 (i := x11253.toNatClampNeg) (k := x11255.toNatClampNeg) (x := x11256) (ix500 tx11252 tx11253 hrw.1 hlw.1) (le500 hrw hlw) (ixk n_3000 tx11255 hlw.1) ex11256 (Wr.I wH11257) (fun j hj => Wr.neI wH11257 (Or.inr hj))
          have b11267 : CP (fun k => fI H11257 mq k) (fun k => fI H11165 mq k) (0) (0) (0) := CP.congr (fun j => Wr.neI wH11257 (Or.inl (G_ne gmq gaq (by decide)))) b11229
          have b11268 : CP (fun k => fI H11257 lsq k) (fun k => fI H11165 lsq k) (16 * x11169.toNatClampNeg) (96) (x11168.toNatClampNeg) := CP.congr (fun j => Wr.neI wH11257 (Or.inl (G_ne glsq gaq (by decide)))) b11230
          have b11269 : CP (fun k => fI H11257 l1 k) (fun k => fI H11165 l1 k) (16 * x11169.toNatClampNeg) (96) (x11168.toNatClampNeg) := CP.congr (fun j => Wr.neI wH11257 (Or.inl (G_ne gl1 gaq (by decide)))) b11231
          have b11270 : CP (fun k => fI H11257 l2 k) (fun k => fI H11165 l2 k) (16 * x11169.toNatClampNeg) (96) (x11168.toNatClampNeg) := CP.congr (fun j => Wr.neI wH11257 (Or.inl (G_ne gl2 gaq (by decide)))) b11232
          have b11271 : CP (fun k => fI H11257 l3 k) (fun k => fI H11165 l3 k) (16 * x11169.toNatClampNeg) (96) (x11168.toNatClampNeg) := CP.congr (fun j => Wr.neI wH11257 (Or.inl (G_ne gl3 gaq (by decide)))) b11233
          have f11272 : ∀ j : Nat, bt j = (fI H11257 tq j).toInt := fun j => (f11234 j).trans (congrArg Int32.toInt (Wr.neI wH11257 (Or.inl (G_ne gtq gaq (by decide)))).symm)
          have f11273 : ∀ j : Nat, fI H11257 mq j = fI s.heap mq j := fun j => (Wr.neI wH11257 (Or.inl (G_ne gmq gaq (by decide)))).trans (f11235 j)
          have m11274 := m11236.trans (Wr.neI wH11257 (Or.inl (G_ne ga0 gaq (by decide)))).symm
          have m11275 := m11237.trans (Wr.neI wH11257 (Or.inl (G_ne ga0 gaq (by decide)))).symm
          have m11276 := m11238.trans (Wr.neR wH11257 (Or.inl (G_ne ga0 gaq (by decide)))).symm
          have m11277 := m11239.trans (Wr.neR wH11257 (Or.inl (G_ne ga0 gaq (by decide)))).symm
          have m11278 := m11240.trans (Wr.neR wH11257 (Or.inl (G_ne ga0 gaq (by decide)))).symm
          have m11279 := m11241.trans (Wr.neR wH11257 (Or.inl (G_ne ga0 gaq (by decide)))).symm
          have m11280 := m11242.trans (Wr.neR wH11257 (Or.inl (G_ne ga0 gaq (by decide)))).symm
          have m11281 := m11243.trans (Wr.neR wH11257 (Or.inl (G_ne ga0 gaq (by decide)))).symm
          have m11282 := m11244.trans (Wr.neR wH11257 (Or.inl (G_ne ga0 gaq (by decide)))).symm
          have m11283 := m11245.trans (Wr.neR wH11257 (Or.inl (G_ne ga0 gaq (by decide)))).symm
          have m11284 := m11246.trans (Wr.neR wH11257 (Or.inl (G_ne ga0 gaq (by decide)))).symm
          have m11285 := m11247.trans (Wr.neR wH11257 (Or.inl (G_ne ga0 gaq (by decide)))).symm
          have m11286 := m11248.trans (Wr.neR wH11257 (Or.inl (G_ne ga0 gaq (by decide)))).symm
          have m11287 := m11250.trans (Wr.neI wH11257 (Or.inl (G_ne goq gaq (by decide)))).symm
          have m11289 := Wr.I wH11257
          have m11289 := m11289.symm
          clear b11224 b11225 b11226 b11227 b11228 b11229 b11230 b11231 b11232 b11233 ex11256 f11234 f11235 g11221 g11222 g11223 hTH11219 m11236 m11237 m11238 m11239 m11240 m11241 m11242 m11243 m11244 m11245 m11246 m11247 m11248 m11250 mf11220
          clear tx11252 tx11253 tx11255 bx11256 ex11252 ex11253 ex11255
          obtain ⟨x11290, ex11290⟩ : ∃ y : Int32, y = x11176 + 1 := ⟨_, rfl⟩
          have tx11290 := i_add ex11290 (by omega)
          refine lv_iinc (v := x11290) (lv' := [(6, .int x11290), (0, .ref a0), (4, .int x11168), (5, .int x11169)]) hx hb dX10_text_388 hl11175 (k := 3) rfl (by rw [ex11290]; rfl) (by decide) rfl (fun ls11291 hl11292 => ?_)
          refine lv_goto (tgt := 329) hx hb dX10_text_391 (by decide) ?_
          have cl_x11168 := i_cl (x := x11168) bx11168.1
          have cl_x11169 := i_cl (x := x11169) (Int.le_trans (by decide) bx11169.1)
          have cl_x11176 := i_cl (x := x11176) bx11176.1
          have cl_x11290 := i_cl (x := x11290) (by omega)
          exact ih329 ls11291 H11257 locsH11257 (x11290) (x11177) (x11178) (lv_sub hl11292 [1, 2, 3, 0] rfl) hTH11257 hSH11257 ⟨by have := i_rng x11290; omega, by have := i_rng x11290; omega⟩ bx11177 bx11178 m11274 m11275 m11276 m11277 m11278 m11279 m11280 m11281 m11282 m11283 m11284 m11285 m11286 (CP.cast b11262 (by omega) (by omega) (by omega)) (CP.cast b11263 (by omega) (by omega) (by omega)) (CP.cast b11264 (by omega) (by omega) (by omega)) (CP.cast b11265 (by omega) (by omega) (by omega)) (CP.cast b11266 (by omega) (by omega) (by omega)) (CP.cast b11267 (by omega) (by omega) (by omega)) (CP.cast b11268 (by omega) (by omega) (by omega)) (CP.cast b11269 (by omega) (by omega) (by omega)) (CP.cast b11270 (by omega) (by omega) (by omega)) (CP.cast b11271 (by omega) (by omega) (by omega)) mf11258 g11259 g11260 g11261 f11272 f11273 (by omega) (by omega)
    have J152 : ∀ (nf : Nat) (ls11294 : Array Slot) (H11293 : Heap) (locsH11293 : List Loc) (x11296 : Int32) (x11297 : Int32) (x11298 : Int32), lv_has ls11294 7 [(0, .ref a0), (4, .int x11168), (5, .int x11169), (6, .int x11296)] → TY K G H11293 → va_S (AE G [112, 136, 137, 138, 129, 130, 131, 132, 133, 134, 135, 128] s.heap.size) s.heap H11293 locsH11293 → (0 ≤ x11296.toInt ∧ x11296.toInt ≤ 16) → (0 ≤ x11297.toInt ∧ x11297.toInt ≤ 500) → (0 ≤ x11298.toInt ∧ x11298.toInt ≤ 0) → (x11297 = fI H11293 a0 (K.1.2 10 35)) → (x11298 = fI H11293 a0 (K.1.2 10 18)) → (EQN oq (fR H11293 a0 (K.1.2 10 32))) → (EQN aq (fR H11293 a0 (K.1.2 10 33))) → (EQN f9 (fR H11293 a0 (K.1.2 10 29))) → (EQN f0 (fR H11293 a0 (K.1.2 10 30))) → (EQN f1 (fR H11293 a0 (K.1.2 10 31))) → (EQN mq (fR H11293 a0 (K.1.2 10 24))) → (EQN tq (fR H11293 a0 (K.1.2 10 17))) → (EQN l1 (fR H11293 a0 (K.1.2 10 26))) → (EQN l2 (fR H11293 a0 (K.1.2 10 27))) → (EQN l3 (fR H11293 a0 (K.1.2 10 28))) → (EQN lsq (fR H11293 a0 (K.1.2 10 25))) → (CP (fun k => fI H11293 f9 k) (fun k => fI H11165 f9 k) (16 * x11169.toNatClampNeg) (96) (x11296.toNatClampNeg)) → (CP (fun k => fI H11293 f0 k) (fun k => fI H11165 f0 k) (16 * x11169.toNatClampNeg) (96) (x11296.toNatClampNeg)) → (CP (fun k => fI H11293 f1 k) (fun k => fI H11165 f1 k) (16 * x11169.toNatClampNeg) (96) (x11296.toNatClampNeg)) → (CP (fun k => fI H11293 oq k) (fun k => fI H11165 oq k) (500 * x11169.toNatClampNeg) (3000) (0)) → (CP (fun k => fI H11293 aq k) (fun k => fI H11165 aq k) (500 * x11169.toNatClampNeg) (3000) (0)) → (CP (fun k => fI H11293 mq k) (fun k => fI H11165 mq k) (0) (0) (0)) → (CP (fun k => fI H11293 lsq k) (fun k => fI H11165 lsq k) (16 * x11169.toNatClampNeg) (96) (x11296.toNatClampNeg)) → (CP (fun k => fI H11293 l1 k) (fun k => fI H11165 l1 k) (16 * x11169.toNatClampNeg) (96) (x11296.toNatClampNeg)) → (CP (fun k => fI H11293 l2 k) (fun k => fI H11165 l2 k) (16 * x11169.toNatClampNeg) (96) (x11296.toNatClampNeg)) → (CP (fun k => fI H11293 l3 k) (fun k => fI H11165 l3 k) (16 * x11169.toNatClampNeg) (96) (x11296.toNatClampNeg)) → (MF K s.heap H11293 a0 [0, 18, 19, 20, 21, 22, 34, 35, 36, 38, 39, 40, 41, 42]) → (TU (avw K H11293 a0) (svw K H11293 a0)) → (WD (avw K H11293 a0)) → (IM (avw K H11293 a0)) → (∀ j : Nat, bt j = (fI H11293 tq j).toInt) → (∀ j : Nat, fI H11293 mq j = fI s.heap mq j) → (16 - x11296.toInt < (nf : Int)) → (x11297.toInt = x11170.toInt ∧ x11298.toInt = 0 ∧ x11296.toInt ≤ x11168.toInt) → W p l e ({ frames := 10, cells := 0, slots := 0, locals := 215 } : Room) s m (([.ref a0, .int x1, .int x2] : List Value).toArray) below meth c H11293 locsH11293 0 0 Q (F0 m 152 ls11294 []) := by
      intro nf
      induction nf with
      | zero =>
        intro ls11294 H11293 locsH11293 x11296 x11297 x11298 hl11295 hTH11293 hSH11293 bx11296 bx11297 bx11298 ex11297 ex11298 cy11299_0 cy11299_1 cy11299_2 cy11299_3 cy11299_4 cy11299_5 cy11299_6 cy11299_7 cy11299_8 cy11299_9 cy11299_10 by11299_c9 by11299_c0 by11299_c1 by11299_co by11299_ca by11299_cm by11299_cs by11299_cA by11299_cB by11299_cD mfy11299 gy11299_TU gy11299_WD gy11299_IM fy11299_bt fy11299_mo hm152 iv152
        exfalso
        omega
      | succ nf ih152 =>
        intro ls11294 H11293 locsH11293 x11296 x11297 x11298 hl11295 hTH11293 hSH11293 bx11296 bx11297 bx11298 ex11297 ex11298 cy11299_0 cy11299_1 cy11299_2 cy11299_3 cy11299_4 cy11299_5 cy11299_6 cy11299_7 cy11299_8 cy11299_9 cy11299_10 by11299_c9 by11299_c0 by11299_c1 by11299_co by11299_ca by11299_cm by11299_cs by11299_cA by11299_cB by11299_cD mfy11299 gy11299_TU gy11299_WD gy11299_IM fy11299_bt fy11299_mo hm152 iv152
        refine lv_iload hx hb dX10_text_152 (lv_at hl11295 3 rfl) ?_
        refine lv_iload hx hb dX10_text_154 (lv_at hl11295 1 rfl) ?_
        refine lv_icmp_ge (tgt := 326) hx hb dX10_text_156 (by decide) (fun c11300 => ?_) (fun c11300 => ?_)
        · have k11301 := i_le c11300
          refine lv_iconst (v := 0) hx hb dX10_text_326 (by decide) ?_
          refine lv_istore (lv' := [(6, .int 0), (0, .ref a0), (4, .int x11168), (5, .int x11169)]) hx hb dX10_text_327 hl11295 (by decide) rfl (fun ls11302 hl11303 => ?_)
          have cl00 : (0 : Int32).toNatClampNeg = 0 := rfl
          have cl_x11168 := i_cl (x := x11168) bx11168.1
          have cl_x11169 := i_cl (x := x11169) (Int.le_trans (by decide) bx11169.1)
          have cl_x11296 := i_cl (x := x11296) bx11296.1
          have cl_0 := i_cl (x := (0 : Int32)) (by omega)
          have cl_0 := i_cl (x := (0 : Int32)) (by omega)
          exact J329 ((500 - (0 : Int32).toInt).toNat + 1) ls11302 H11293 locsH11293 (0) (x11297) (x11298) (lv_sub hl11303 [1, 2, 3, 0] rfl) hTH11293 hSH11293 (by decide) bx11297 bx11298 ex11297 ex11298 cy11299_0 cy11299_1 cy11299_2 cy11299_3 cy11299_4 cy11299_5 cy11299_6 cy11299_7 cy11299_8 cy11299_9 cy11299_10 (CP.cast by11299_c9 (by omega) (by omega) (by omega)) (CP.cast by11299_c0 (by omega) (by omega) (by omega)) (CP.cast by11299_c1 (by omega) (by omega) (by omega)) (CP.cast by11299_co (by omega) (by omega) (by omega)) (CP.cast by11299_ca (by omega) (by omega) (by omega)) (CP.cast by11299_cm (by omega) (by omega) (by omega)) (CP.cast by11299_cs (by omega) (by omega) (by omega)) (CP.cast by11299_cA (by omega) (by omega) (by omega)) (CP.cast by11299_cB (by omega) (by omega) (by omega)) (CP.cast by11299_cD (by omega) (by omega) (by omega)) mfy11299 gy11299_TU gy11299_WD gy11299_IM fy11299_bt fy11299_mo (by omega) (by omega)
        · have k11301 := i_nle c11300
          have hrw : 0 ≤ x11169.toInt ∧ x11169.toInt ≤ 5 := ⟨by omega, by omega⟩
          have hlw : 0 ≤ x11296.toInt ∧ x11296.toInt ≤ 15 := ⟨by omega, by omega⟩
          refine lv_aload_n hx hb dX10_text_159 rfl (lv_at hl11295 0 rfl) ?_
          refine x_gr C hTH11293 (ci := 10) (k := 25) rfl inX10 (by decide) wF_X10_62 ga0 rg_112 rfl dX10_text_160 (fun q11304 eq11304 gq11304 => ?_)
          have uq11304 : lsq = q11304 := (cy11299_10).trans eq11304.symm
          subst uq11304
          clear eq11304
          refine lv_bipush (v := 16) hx hb dX10_text_163 (by decide) ?_
          refine lv_iload hx hb dX10_text_165 (lv_at hl11295 2 rfl) ?_
          refine lv_imul hx hb dX10_text_167 ?_
          refine lv_topi (fun x11305 ex11305 => ?_)
          have tx11305 := i_mul ex11305 (by rw [n_16]; omega)
          rw [n_16] at tx11305
          refine lv_iload hx hb dX10_text_168 (lv_at hl11295 3 rfl) ?_
          refine lv_iadd hx hb dX10_text_170 ?_
          refine lv_topi (fun x11306 ex11306 => ?_)
          have tx11306 := i_add ex11306 (by omega)
          refine lv_aload_n hx hb dX10_text_171 rfl (lv_at hl11295 0 rfl) ?_
          refine x_gr C hTH11293 (ci := 10) (k := 25) rfl inX10 (by decide) wF_X10_62 ga0 rg_112 rfl dX10_text_172 (fun q11307 eq11307 gq11307 => ?_)
          have uq11307 : lsq = q11307 := (cy11299_10).trans eq11307.symm
          subst uq11307
          clear eq11307
          refine lv_bipush (v := 96) hx hb dX10_text_175 (by decide) ?_
          refine lv_iload hx hb dX10_text_177 (lv_at hl11295 3 rfl) ?_
          refine lv_iadd hx hb dX10_text_179 ?_
          refine lv_topi (fun x11308 ex11308 => ?_)
          have tx11308 := i_add ex11308 (by omega)
          refine x_ai C hTH11293 glsq rg_129 ⟨by omega, by show _ < ((112 : Nat) : Int); omega⟩ dX10_text_180 (fun x11309 ex11309 bx11309 => ?_)
          refine x_iast C hTH11293 hSH11293 glsq rg_129 (by omega) (by show _ < ((112 : Nat) : Int); omega) (i_rng x11309) (AE_in glsq (by decide)) dX10_text_181 (fun H11310 locsH11310 hTH11310 hSH11310 wH11310 => ?_)
          have mf11311 : MF K s.heap H11310 a0 [0, 18, 19, 20, 21, 22, 34, 35, 36, 38, 39, 40, 41, 42] := MF.arr wH11310 (G_ne ga0 glsq (by decide)) mfy11299
          have g11312 : TU (avw K H11310 a0) (svw K H11310 a0) := TU.congr (fun k hk j => av_arr hTH11293 ga0 wH11310 glsq (by decide) (TU_ok 129 (by decide) k hk)) (fun k hk => sv_arr ga0 wH11310 glsq (by decide)) gy11299_TU
          have g11313 : WD (avw K H11310 a0) := WD.congr (fun k hk j => av_arr hTH11293 ga0 wH11310 glsq (by decide) (WD_ok 129 (by decide) k hk)) gy11299_WD
          have g11314 : IM (avw K H11310 a0) := IM.congr (fun k hk j => av_arr hTH11293 ga0 wH11310 glsq (by decide) (IM_ok 129 (by decide) k hk)) gy11299_IM
          have b11315 : CP (fun k => fI H11310 f9 k) (fun k => fI H11165 f9 k) (16 * x11169.toNatClampNeg) (96) (x11296.toNatClampNeg) := CP.congr (fun j => Wr.neI wH11310 (Or.inl (G_ne gf9 glsq (by decide)))) by11299_c9
          have b11316 : CP (fun k => fI H11310 f0 k) (fun k => fI H11165 f0 k) (16 * x11169.toNatClampNeg) (96) (x11296.toNatClampNeg) := CP.congr (fun j => Wr.neI wH11310 (Or.inl (G_ne gf0 glsq (by decide)))) by11299_c0
          have b11317 : CP (fun k => fI H11310 f1 k) (fun k => fI H11165 f1 k) (16 * x11169.toNatClampNeg) (96) (x11296.toNatClampNeg) := CP.congr (fun j => Wr.neI wH11310 (Or.inl (G_ne gf1 glsq (by decide)))) by11299_c1
          have b11318 : CP (fun k => fI H11310 oq k) (fun k => fI H11165 oq k) (500 * x11169.toNatClampNeg) (3000) (0) := CP.congr (fun j => Wr.neI wH11310 (Or.inl (G_ne goq glsq (by decide)))) by11299_co
          have b11319 : CP (fun k => fI H11310 aq k) (fun k => fI H11165 aq k) (500 * x11169.toNatClampNeg) (3000) (0) := CP.congr (fun j => Wr.neI wH11310 (Or.inl (G_ne gaq glsq (by decide)))) by11299_ca
          have b11320 : CP (fun k => fI H11310 mq k) (fun k => fI H11165 mq k) (0) (0) (0) := CP.congr (fun j => Wr.neI wH11310 (Or.inl (G_ne gmq glsq (by decide)))) by11299_cm
          have b11321 : CP (fun k => fI H11310 lsq k) (fun k => fI H11165 lsq k) (16 * x11169.toNatClampNeg) (96) (x11296.toNatClampNeg + 1) := CP.step by11299_cs (i := x11306.toNatClampNeg) (k := x11308.toNatClampNeg) (x := x11309) (ix16 tx11305 tx11306 hrw.1 hlw.1) (le16 hrw hlw) (ixk n_96 tx11308 hlw.1) ex11309 (Wr.I wH11310) (fun j hj => Wr.neI wH11310 (Or.inr hj))
          have b11322 : CP (fun k => fI H11310 l1 k) (fun k => fI H11165 l1 k) (16 * x11169.toNatClampNeg) (96) (x11296.toNatClampNeg) := CP.congr (fun j => Wr.neI wH11310 (Or.inl (G_ne gl1 glsq (by decide)))) by11299_cA
          have b11323 : CP (fun k => fI H11310 l2 k) (fun k => fI H11165 l2 k) (16 * x11169.toNatClampNeg) (96) (x11296.toNatClampNeg) := CP.congr (fun j => Wr.neI wH11310 (Or.inl (G_ne gl2 glsq (by decide)))) by11299_cB
          have b11324 : CP (fun k => fI H11310 l3 k) (fun k => fI H11165 l3 k) (16 * x11169.toNatClampNeg) (96) (x11296.toNatClampNeg) := CP.congr (fun j => Wr.neI wH11310 (Or.inl (G_ne gl3 glsq (by decide)))) by11299_cD
          have f11325 : ∀ j : Nat, bt j = (fI H11310 tq j).toInt := fun j => (fy11299_bt j).trans (congrArg Int32.toInt (Wr.neI wH11310 (Or.inl (G_ne gtq glsq (by decide)))).symm)
          have f11326 : ∀ j : Nat, fI H11310 mq j = fI s.heap mq j := fun j => (Wr.neI wH11310 (Or.inl (G_ne gmq glsq (by decide)))).trans (fy11299_mo j)
          have m11327 := ex11297.trans (Wr.neI wH11310 (Or.inl (G_ne ga0 glsq (by decide)))).symm
          have m11328 := ex11298.trans (Wr.neI wH11310 (Or.inl (G_ne ga0 glsq (by decide)))).symm
          have m11329 := cy11299_0.trans (Wr.neR wH11310 (Or.inl (G_ne ga0 glsq (by decide)))).symm
          have m11330 := cy11299_1.trans (Wr.neR wH11310 (Or.inl (G_ne ga0 glsq (by decide)))).symm
          have m11331 := cy11299_2.trans (Wr.neR wH11310 (Or.inl (G_ne ga0 glsq (by decide)))).symm
          have m11332 := cy11299_3.trans (Wr.neR wH11310 (Or.inl (G_ne ga0 glsq (by decide)))).symm
          have m11333 := cy11299_4.trans (Wr.neR wH11310 (Or.inl (G_ne ga0 glsq (by decide)))).symm
          have m11334 := cy11299_5.trans (Wr.neR wH11310 (Or.inl (G_ne ga0 glsq (by decide)))).symm
          have m11335 := cy11299_6.trans (Wr.neR wH11310 (Or.inl (G_ne ga0 glsq (by decide)))).symm
          have m11336 := cy11299_7.trans (Wr.neR wH11310 (Or.inl (G_ne ga0 glsq (by decide)))).symm
          have m11337 := cy11299_8.trans (Wr.neR wH11310 (Or.inl (G_ne ga0 glsq (by decide)))).symm
          have m11338 := cy11299_9.trans (Wr.neR wH11310 (Or.inl (G_ne ga0 glsq (by decide)))).symm
          have m11339 := cy11299_10.trans (Wr.neR wH11310 (Or.inl (G_ne ga0 glsq (by decide)))).symm
          have m11341 := Wr.I wH11310
          have m11341 := m11341.symm
          clear by11299_c0 by11299_c1 by11299_c9 by11299_cA by11299_cB by11299_cD by11299_ca by11299_cm by11299_co by11299_cs cy11299_0 cy11299_1 cy11299_10 cy11299_2 cy11299_3 cy11299_4 cy11299_5 cy11299_6 cy11299_7 cy11299_8 cy11299_9 ex11297 ex11298 ex11309 fy11299_bt fy11299_mo gy11299_IM gy11299_TU gy11299_WD hTH11293 mfy11299
          clear tx11305 tx11306 tx11308 bx11309 ex11305 ex11306 ex11308
          refine lv_aload_n hx hb dX10_text_182 rfl (lv_at hl11295 0 rfl) ?_
          refine x_gr C hTH11310 (ci := 10) (k := 26) rfl inX10 (by decide) wF_X10_65 ga0 rg_112 rfl dX10_text_183 (fun q11342 eq11342 gq11342 => ?_)
          have uq11342 : l1 = q11342 := (m11336).trans eq11342.symm
          subst uq11342
          clear eq11342
          refine lv_bipush (v := 16) hx hb dX10_text_186 (by decide) ?_
          refine lv_iload hx hb dX10_text_188 (lv_at hl11295 2 rfl) ?_
          refine lv_imul hx hb dX10_text_190 ?_
          refine lv_topi (fun x11343 ex11343 => ?_)
          have tx11343 := i_mul ex11343 (by rw [n_16]; omega)
          rw [n_16] at tx11343
          refine lv_iload hx hb dX10_text_191 (lv_at hl11295 3 rfl) ?_
          refine lv_iadd hx hb dX10_text_193 ?_
          refine lv_topi (fun x11344 ex11344 => ?_)
          have tx11344 := i_add ex11344 (by omega)
          refine lv_aload_n hx hb dX10_text_194 rfl (lv_at hl11295 0 rfl) ?_
          refine x_gr C hTH11310 (ci := 10) (k := 26) rfl inX10 (by decide) wF_X10_65 ga0 rg_112 rfl dX10_text_195 (fun q11345 eq11345 gq11345 => ?_)
          have uq11345 : l1 = q11345 := (m11336).trans eq11345.symm
          subst uq11345
          clear eq11345
          refine lv_bipush (v := 96) hx hb dX10_text_198 (by decide) ?_
          refine lv_iload hx hb dX10_text_200 (lv_at hl11295 3 rfl) ?_
          refine lv_iadd hx hb dX10_text_202 ?_
          refine lv_topi (fun x11346 ex11346 => ?_)
          have tx11346 := i_add ex11346 (by omega)
          refine x_ai C hTH11310 gl1 rg_130 ⟨by omega, by show _ < ((112 : Nat) : Int); omega⟩ dX10_text_203 (fun x11347 ex11347 bx11347 => ?_)
          refine x_iast C hTH11310 hSH11310 gl1 rg_130 (by omega) (by show _ < ((112 : Nat) : Int); omega) (i_rng x11347) (AE_in gl1 (by decide)) dX10_text_204 (fun H11348 locsH11348 hTH11348 hSH11348 wH11348 => ?_)
          have mf11349 : MF K s.heap H11348 a0 [0, 18, 19, 20, 21, 22, 34, 35, 36, 38, 39, 40, 41, 42] := MF.arr wH11348 (G_ne ga0 gl1 (by decide)) mf11311
          have g11350 : TU (avw K H11348 a0) (svw K H11348 a0) := TU.congr (fun k hk j => av_arr hTH11310 ga0 wH11348 gl1 (by decide) (TU_ok 130 (by decide) k hk)) (fun k hk => sv_arr ga0 wH11348 gl1 (by decide)) g11312
          have g11351 : WD (avw K H11348 a0) := WD.congr (fun k hk j => av_arr hTH11310 ga0 wH11348 gl1 (by decide) (WD_ok 130 (by decide) k hk)) g11313
          have g11352 : IM (avw K H11348 a0) := IM.congr (fun k hk j => av_arr hTH11310 ga0 wH11348 gl1 (by decide) (IM_ok 130 (by decide) k hk)) g11314
          have b11353 : CP (fun k => fI H11348 f9 k) (fun k => fI H11165 f9 k) (16 * x11169.toNatClampNeg) (96) (x11296.toNatClampNeg) := CP.congr (fun j => Wr.neI wH11348 (Or.inl (G_ne gf9 gl1 (by decide)))) b11315
          have b11354 : CP (fun k => fI H11348 f0 k) (fun k => fI H11165 f0 k) (16 * x11169.toNatClampNeg) (96) (x11296.toNatClampNeg) := CP.congr (fun j => Wr.neI wH11348 (Or.inl (G_ne gf0 gl1 (by decide)))) b11316
          have b11355 : CP (fun k => fI H11348 f1 k) (fun k => fI H11165 f1 k) (16 * x11169.toNatClampNeg) (96) (x11296.toNatClampNeg) := CP.congr (fun j => Wr.neI wH11348 (Or.inl (G_ne gf1 gl1 (by decide)))) b11317
          have b11356 : CP (fun k => fI H11348 oq k) (fun k => fI H11165 oq k) (500 * x11169.toNatClampNeg) (3000) (0) := CP.congr (fun j => Wr.neI wH11348 (Or.inl (G_ne goq gl1 (by decide)))) b11318
          have b11357 : CP (fun k => fI H11348 aq k) (fun k => fI H11165 aq k) (500 * x11169.toNatClampNeg) (3000) (0) := CP.congr (fun j => Wr.neI wH11348 (Or.inl (G_ne gaq gl1 (by decide)))) b11319
          have b11358 : CP (fun k => fI H11348 mq k) (fun k => fI H11165 mq k) (0) (0) (0) := CP.congr (fun j => Wr.neI wH11348 (Or.inl (G_ne gmq gl1 (by decide)))) b11320
          have b11359 : CP (fun k => fI H11348 lsq k) (fun k => fI H11165 lsq k) (16 * x11169.toNatClampNeg) (96) (x11296.toNatClampNeg + 1) := CP.congr (fun j => Wr.neI wH11348 (Or.inl (G_ne glsq gl1 (by decide)))) b11321
          have b11360 : CP (fun k => fI H11348 l1 k) (fun k => fI H11165 l1 k) (16 * x11169.toNatClampNeg) (96) (x11296.toNatClampNeg + 1) := CP.step b11322 (i := x11344.toNatClampNeg) (k := x11346.toNatClampNeg) (x := x11347) (ix16 tx11343 tx11344 hrw.1 hlw.1) (le16 hrw hlw) (ixk n_96 tx11346 hlw.1) ex11347 (Wr.I wH11348) (fun j hj => Wr.neI wH11348 (Or.inr hj))
          have b11361 : CP (fun k => fI H11348 l2 k) (fun k => fI H11165 l2 k) (16 * x11169.toNatClampNeg) (96) (x11296.toNatClampNeg) := CP.congr (fun j => Wr.neI wH11348 (Or.inl (G_ne gl2 gl1 (by decide)))) b11323
          have b11362 : CP (fun k => fI H11348 l3 k) (fun k => fI H11165 l3 k) (16 * x11169.toNatClampNeg) (96) (x11296.toNatClampNeg) := CP.congr (fun j => Wr.neI wH11348 (Or.inl (G_ne gl3 gl1 (by decide)))) b11324
          have f11363 : ∀ j : Nat, bt j = (fI H11348 tq j).toInt := fun j => (f11325 j).trans (congrArg Int32.toInt (Wr.neI wH11348 (Or.inl (G_ne gtq gl1 (by decide)))).symm)
          have f11364 : ∀ j : Nat, fI H11348 mq j = fI s.heap mq j := fun j => (Wr.neI wH11348 (Or.inl (G_ne gmq gl1 (by decide)))).trans (f11326 j)
          have m11365 := m11327.trans (Wr.neI wH11348 (Or.inl (G_ne ga0 gl1 (by decide)))).symm
          have m11366 := m11328.trans (Wr.neI wH11348 (Or.inl (G_ne ga0 gl1 (by decide)))).symm
          have m11367 := m11329.trans (Wr.neR wH11348 (Or.inl (G_ne ga0 gl1 (by decide)))).symm
          have m11368 := m11330.trans (Wr.neR wH11348 (Or.inl (G_ne ga0 gl1 (by decide)))).symm
          have m11369 := m11331.trans (Wr.neR wH11348 (Or.inl (G_ne ga0 gl1 (by decide)))).symm
          have m11370 := m11332.trans (Wr.neR wH11348 (Or.inl (G_ne ga0 gl1 (by decide)))).symm
          have m11371 := m11333.trans (Wr.neR wH11348 (Or.inl (G_ne ga0 gl1 (by decide)))).symm
          have m11372 := m11334.trans (Wr.neR wH11348 (Or.inl (G_ne ga0 gl1 (by decide)))).symm
          have m11373 := m11335.trans (Wr.neR wH11348 (Or.inl (G_ne ga0 gl1 (by decide)))).symm
          have m11374 := m11336.trans (Wr.neR wH11348 (Or.inl (G_ne ga0 gl1 (by decide)))).symm
          have m11375 := m11337.trans (Wr.neR wH11348 (Or.inl (G_ne ga0 gl1 (by decide)))).symm
          have m11376 := m11338.trans (Wr.neR wH11348 (Or.inl (G_ne ga0 gl1 (by decide)))).symm
          have m11377 := m11339.trans (Wr.neR wH11348 (Or.inl (G_ne ga0 gl1 (by decide)))).symm
          have m11378 := m11341.trans (Wr.neI wH11348 (Or.inl (G_ne glsq gl1 (by decide)))).symm
          have m11380 := Wr.I wH11348
          have m11380 := m11380.symm
          clear b11315 b11316 b11317 b11318 b11319 b11320 b11321 b11322 b11323 b11324 ex11347 f11325 f11326 g11312 g11313 g11314 hTH11310 m11327 m11328 m11329 m11330 m11331 m11332 m11333 m11334 m11335 m11336 m11337 m11338 m11339 m11341 mf11311
          clear tx11343 tx11344 tx11346 bx11347 ex11343 ex11344 ex11346
          refine lv_aload_n hx hb dX10_text_205 rfl (lv_at hl11295 0 rfl) ?_
          refine x_gr C hTH11348 (ci := 10) (k := 27) rfl inX10 (by decide) wF_X10_68 ga0 rg_112 rfl dX10_text_206 (fun q11381 eq11381 gq11381 => ?_)
          have uq11381 : l2 = q11381 := (m11375).trans eq11381.symm
          subst uq11381
          clear eq11381
          refine lv_bipush (v := 16) hx hb dX10_text_209 (by decide) ?_
          refine lv_iload hx hb dX10_text_211 (lv_at hl11295 2 rfl) ?_
          refine lv_imul hx hb dX10_text_213 ?_
          refine lv_topi (fun x11382 ex11382 => ?_)
          have tx11382 := i_mul ex11382 (by rw [n_16]; omega)
          rw [n_16] at tx11382
          refine lv_iload hx hb dX10_text_214 (lv_at hl11295 3 rfl) ?_
          refine lv_iadd hx hb dX10_text_216 ?_
          refine lv_topi (fun x11383 ex11383 => ?_)
          have tx11383 := i_add ex11383 (by omega)
          refine lv_aload_n hx hb dX10_text_217 rfl (lv_at hl11295 0 rfl) ?_
          refine x_gr C hTH11348 (ci := 10) (k := 27) rfl inX10 (by decide) wF_X10_68 ga0 rg_112 rfl dX10_text_218 (fun q11384 eq11384 gq11384 => ?_)
          have uq11384 : l2 = q11384 := (m11375).trans eq11384.symm
          subst uq11384
          clear eq11384
          refine lv_bipush (v := 96) hx hb dX10_text_221 (by decide) ?_
          refine lv_iload hx hb dX10_text_223 (lv_at hl11295 3 rfl) ?_
          refine lv_iadd hx hb dX10_text_225 ?_
          refine lv_topi (fun x11385 ex11385 => ?_)
          have tx11385 := i_add ex11385 (by omega)
          refine x_ai C hTH11348 gl2 rg_131 ⟨by omega, by show _ < ((112 : Nat) : Int); omega⟩ dX10_text_226 (fun x11386 ex11386 bx11386 => ?_)
          refine x_iast C hTH11348 hSH11348 gl2 rg_131 (by omega) (by show _ < ((112 : Nat) : Int); omega) ⟨Int.le_trans (by decide) bx11386.1, Int.le_trans bx11386.2 (by decide)⟩ (AE_in gl2 (by decide)) dX10_text_227 (fun H11387 locsH11387 hTH11387 hSH11387 wH11387 => ?_)
          have mf11388 : MF K s.heap H11387 a0 [0, 18, 19, 20, 21, 22, 34, 35, 36, 38, 39, 40, 41, 42] := MF.arr wH11387 (G_ne ga0 gl2 (by decide)) mf11349
          have g11389 : TU (avw K H11387 a0) (svw K H11387 a0) := TU.congr (fun k hk j => av_arr hTH11348 ga0 wH11387 gl2 (by decide) (TU_ok 131 (by decide) k hk)) (fun k hk => sv_arr ga0 wH11387 gl2 (by decide)) g11350
          have g11390 : WD (avw K H11387 a0) := WD.congr (fun k hk j => av_arr hTH11348 ga0 wH11387 gl2 (by decide) (WD_ok 131 (by decide) k hk)) g11351
          have g11391 : IM (avw K H11387 a0) := IM.congr (fun k hk j => av_arr hTH11348 ga0 wH11387 gl2 (by decide) (IM_ok 131 (by decide) k hk)) g11352
          have b11392 : CP (fun k => fI H11387 f9 k) (fun k => fI H11165 f9 k) (16 * x11169.toNatClampNeg) (96) (x11296.toNatClampNeg) := CP.congr (fun j => Wr.neI wH11387 (Or.inl (G_ne gf9 gl2 (by decide)))) b11353
          have b11393 : CP (fun k => fI H11387 f0 k) (fun k => fI H11165 f0 k) (16 * x11169.toNatClampNeg) (96) (x11296.toNatClampNeg) := CP.congr (fun j => Wr.neI wH11387 (Or.inl (G_ne gf0 gl2 (by decide)))) b11354
          have b11394 : CP (fun k => fI H11387 f1 k) (fun k => fI H11165 f1 k) (16 * x11169.toNatClampNeg) (96) (x11296.toNatClampNeg) := CP.congr (fun j => Wr.neI wH11387 (Or.inl (G_ne gf1 gl2 (by decide)))) b11355
          have b11395 : CP (fun k => fI H11387 oq k) (fun k => fI H11165 oq k) (500 * x11169.toNatClampNeg) (3000) (0) := CP.congr (fun j => Wr.neI wH11387 (Or.inl (G_ne goq gl2 (by decide)))) b11356
          have b11396 : CP (fun k => fI H11387 aq k) (fun k => fI H11165 aq k) (500 * x11169.toNatClampNeg) (3000) (0) := CP.congr (fun j => Wr.neI wH11387 (Or.inl (G_ne gaq gl2 (by decide)))) b11357
          have b11397 : CP (fun k => fI H11387 mq k) (fun k => fI H11165 mq k) (0) (0) (0) := CP.congr (fun j => Wr.neI wH11387 (Or.inl (G_ne gmq gl2 (by decide)))) b11358
          have b11398 : CP (fun k => fI H11387 lsq k) (fun k => fI H11165 lsq k) (16 * x11169.toNatClampNeg) (96) (x11296.toNatClampNeg + 1) := CP.congr (fun j => Wr.neI wH11387 (Or.inl (G_ne glsq gl2 (by decide)))) b11359
          have b11399 : CP (fun k => fI H11387 l1 k) (fun k => fI H11165 l1 k) (16 * x11169.toNatClampNeg) (96) (x11296.toNatClampNeg + 1) := CP.congr (fun j => Wr.neI wH11387 (Or.inl (G_ne gl1 gl2 (by decide)))) b11360
          have b11400 : CP (fun k => fI H11387 l2 k) (fun k => fI H11165 l2 k) (16 * x11169.toNatClampNeg) (96) (x11296.toNatClampNeg + 1) := CP.step b11361 (i := x11383.toNatClampNeg) (k := x11385.toNatClampNeg) (x := x11386) (ix16 tx11382 tx11383 hrw.1 hlw.1) (le16 hrw hlw) (ixk n_96 tx11385 hlw.1) ex11386 (Wr.I wH11387) (fun j hj => Wr.neI wH11387 (Or.inr hj))
          have b11401 : CP (fun k => fI H11387 l3 k) (fun k => fI H11165 l3 k) (16 * x11169.toNatClampNeg) (96) (x11296.toNatClampNeg) := CP.congr (fun j => Wr.neI wH11387 (Or.inl (G_ne gl3 gl2 (by decide)))) b11362
          have f11402 : ∀ j : Nat, bt j = (fI H11387 tq j).toInt := fun j => (f11363 j).trans (congrArg Int32.toInt (Wr.neI wH11387 (Or.inl (G_ne gtq gl2 (by decide)))).symm)
          have f11403 : ∀ j : Nat, fI H11387 mq j = fI s.heap mq j := fun j => (Wr.neI wH11387 (Or.inl (G_ne gmq gl2 (by decide)))).trans (f11364 j)
          have m11404 := m11365.trans (Wr.neI wH11387 (Or.inl (G_ne ga0 gl2 (by decide)))).symm
          have m11405 := m11366.trans (Wr.neI wH11387 (Or.inl (G_ne ga0 gl2 (by decide)))).symm
          have m11406 := m11367.trans (Wr.neR wH11387 (Or.inl (G_ne ga0 gl2 (by decide)))).symm
          have m11407 := m11368.trans (Wr.neR wH11387 (Or.inl (G_ne ga0 gl2 (by decide)))).symm
          have m11408 := m11369.trans (Wr.neR wH11387 (Or.inl (G_ne ga0 gl2 (by decide)))).symm
          have m11409 := m11370.trans (Wr.neR wH11387 (Or.inl (G_ne ga0 gl2 (by decide)))).symm
          have m11410 := m11371.trans (Wr.neR wH11387 (Or.inl (G_ne ga0 gl2 (by decide)))).symm
          have m11411 := m11372.trans (Wr.neR wH11387 (Or.inl (G_ne ga0 gl2 (by decide)))).symm
          have m11412 := m11373.trans (Wr.neR wH11387 (Or.inl (G_ne ga0 gl2 (by decide)))).symm
          have m11413 := m11374.trans (Wr.neR wH11387 (Or.inl (G_ne ga0 gl2 (by decide)))).symm
          have m11414 := m11375.trans (Wr.neR wH11387 (Or.inl (G_ne ga0 gl2 (by decide)))).symm
          have m11415 := m11376.trans (Wr.neR wH11387 (Or.inl (G_ne ga0 gl2 (by decide)))).symm
          have m11416 := m11377.trans (Wr.neR wH11387 (Or.inl (G_ne ga0 gl2 (by decide)))).symm
          have m11417 := m11378.trans (Wr.neI wH11387 (Or.inl (G_ne glsq gl2 (by decide)))).symm
          have m11418 := m11380.trans (Wr.neI wH11387 (Or.inl (G_ne gl1 gl2 (by decide)))).symm
          have m11420 := Wr.I wH11387
          have m11420 := m11420.symm
          clear b11353 b11354 b11355 b11356 b11357 b11358 b11359 b11360 b11361 b11362 ex11386 f11363 f11364 g11350 g11351 g11352 hTH11348 m11365 m11366 m11367 m11368 m11369 m11370 m11371 m11372 m11373 m11374 m11375 m11376 m11377 m11378 m11380 mf11349
          clear tx11382 tx11383 tx11385 bx11386 ex11382 ex11383 ex11385
          refine lv_aload_n hx hb dX10_text_228 rfl (lv_at hl11295 0 rfl) ?_
          refine x_gr C hTH11387 (ci := 10) (k := 28) rfl inX10 (by decide) wF_X10_71 ga0 rg_112 rfl dX10_text_229 (fun q11421 eq11421 gq11421 => ?_)
          have uq11421 : l3 = q11421 := (m11415).trans eq11421.symm
          subst uq11421
          clear eq11421
          refine lv_bipush (v := 16) hx hb dX10_text_232 (by decide) ?_
          refine lv_iload hx hb dX10_text_234 (lv_at hl11295 2 rfl) ?_
          refine lv_imul hx hb dX10_text_236 ?_
          refine lv_topi (fun x11422 ex11422 => ?_)
          have tx11422 := i_mul ex11422 (by rw [n_16]; omega)
          rw [n_16] at tx11422
          refine lv_iload hx hb dX10_text_237 (lv_at hl11295 3 rfl) ?_
          refine lv_iadd hx hb dX10_text_239 ?_
          refine lv_topi (fun x11423 ex11423 => ?_)
          have tx11423 := i_add ex11423 (by omega)
          refine lv_aload_n hx hb dX10_text_240 rfl (lv_at hl11295 0 rfl) ?_
          refine x_gr C hTH11387 (ci := 10) (k := 28) rfl inX10 (by decide) wF_X10_71 ga0 rg_112 rfl dX10_text_241 (fun q11424 eq11424 gq11424 => ?_)
          have uq11424 : l3 = q11424 := (m11415).trans eq11424.symm
          subst uq11424
          clear eq11424
          refine lv_bipush (v := 96) hx hb dX10_text_244 (by decide) ?_
          refine lv_iload hx hb dX10_text_246 (lv_at hl11295 3 rfl) ?_
          refine lv_iadd hx hb dX10_text_248 ?_
          refine lv_topi (fun x11425 ex11425 => ?_)
          have tx11425 := i_add ex11425 (by omega)
          refine x_ai C hTH11387 gl3 rg_132 ⟨by omega, by show _ < ((112 : Nat) : Int); omega⟩ dX10_text_249 (fun x11426 ex11426 bx11426 => ?_)
          refine x_iast C hTH11387 hSH11387 gl3 rg_132 (by omega) (by show _ < ((112 : Nat) : Int); omega) (i_rng x11426) (AE_in gl3 (by decide)) dX10_text_250 (fun H11427 locsH11427 hTH11427 hSH11427 wH11427 => ?_)
          have mf11428 : MF K s.heap H11427 a0 [0, 18, 19, 20, 21, 22, 34, 35, 36, 38, 39, 40, 41, 42] := MF.arr wH11427 (G_ne ga0 gl3 (by decide)) mf11388
          have g11429 : TU (avw K H11427 a0) (svw K H11427 a0) := TU.congr (fun k hk j => av_arr hTH11387 ga0 wH11427 gl3 (by decide) (TU_ok 132 (by decide) k hk)) (fun k hk => sv_arr ga0 wH11427 gl3 (by decide)) g11389
          have g11430 : WD (avw K H11427 a0) := WD.congr (fun k hk j => av_arr hTH11387 ga0 wH11427 gl3 (by decide) (WD_ok 132 (by decide) k hk)) g11390
          have g11431 : IM (avw K H11427 a0) := IM.congr (fun k hk j => av_arr hTH11387 ga0 wH11427 gl3 (by decide) (IM_ok 132 (by decide) k hk)) g11391
          have b11432 : CP (fun k => fI H11427 f9 k) (fun k => fI H11165 f9 k) (16 * x11169.toNatClampNeg) (96) (x11296.toNatClampNeg) := CP.congr (fun j => Wr.neI wH11427 (Or.inl (G_ne gf9 gl3 (by decide)))) b11392
          have b11433 : CP (fun k => fI H11427 f0 k) (fun k => fI H11165 f0 k) (16 * x11169.toNatClampNeg) (96) (x11296.toNatClampNeg) := CP.congr (fun j => Wr.neI wH11427 (Or.inl (G_ne gf0 gl3 (by decide)))) b11393
          have b11434 : CP (fun k => fI H11427 f1 k) (fun k => fI H11165 f1 k) (16 * x11169.toNatClampNeg) (96) (x11296.toNatClampNeg) := CP.congr (fun j => Wr.neI wH11427 (Or.inl (G_ne gf1 gl3 (by decide)))) b11394
          have b11435 : CP (fun k => fI H11427 oq k) (fun k => fI H11165 oq k) (500 * x11169.toNatClampNeg) (3000) (0) := CP.congr (fun j => Wr.neI wH11427 (Or.inl (G_ne goq gl3 (by decide)))) b11395
          have b11436 : CP (fun k => fI H11427 aq k) (fun k => fI H11165 aq k) (500 * x11169.toNatClampNeg) (3000) (0) := CP.congr (fun j => Wr.neI wH11427 (Or.inl (G_ne gaq gl3 (by decide)))) b11396
          have b11437 : CP (fun k => fI H11427 mq k) (fun k => fI H11165 mq k) (0) (0) (0) := CP.congr (fun j => Wr.neI wH11427 (Or.inl (G_ne gmq gl3 (by decide)))) b11397
          have b11438 : CP (fun k => fI H11427 lsq k) (fun k => fI H11165 lsq k) (16 * x11169.toNatClampNeg) (96) (x11296.toNatClampNeg + 1) := CP.congr (fun j => Wr.neI wH11427 (Or.inl (G_ne glsq gl3 (by decide)))) b11398
          have b11439 : CP (fun k => fI H11427 l1 k) (fun k => fI H11165 l1 k) (16 * x11169.toNatClampNeg) (96) (x11296.toNatClampNeg + 1) := CP.congr (fun j => Wr.neI wH11427 (Or.inl (G_ne gl1 gl3 (by decide)))) b11399
          have b11440 : CP (fun k => fI H11427 l2 k) (fun k => fI H11165 l2 k) (16 * x11169.toNatClampNeg) (96) (x11296.toNatClampNeg + 1) := CP.congr (fun j => Wr.neI wH11427 (Or.inl (G_ne gl2 gl3 (by decide)))) b11400
          have b11441 : CP (fun k => fI H11427 l3 k) (fun k => fI H11165 l3 k) (16 * x11169.toNatClampNeg) (96) (x11296.toNatClampNeg + 1) := CP.step b11401 (i := x11423.toNatClampNeg) (k := x11425.toNatClampNeg) (x := x11426) (ix16 tx11422 tx11423 hrw.1 hlw.1) (le16 hrw hlw) (ixk n_96 tx11425 hlw.1) ex11426 (Wr.I wH11427) (fun j hj => Wr.neI wH11427 (Or.inr hj))
          have f11442 : ∀ j : Nat, bt j = (fI H11427 tq j).toInt := fun j => (f11402 j).trans (congrArg Int32.toInt (Wr.neI wH11427 (Or.inl (G_ne gtq gl3 (by decide)))).symm)
          have f11443 : ∀ j : Nat, fI H11427 mq j = fI s.heap mq j := fun j => (Wr.neI wH11427 (Or.inl (G_ne gmq gl3 (by decide)))).trans (f11403 j)
          have m11444 := m11404.trans (Wr.neI wH11427 (Or.inl (G_ne ga0 gl3 (by decide)))).symm
          have m11445 := m11405.trans (Wr.neI wH11427 (Or.inl (G_ne ga0 gl3 (by decide)))).symm
          have m11446 := m11406.trans (Wr.neR wH11427 (Or.inl (G_ne ga0 gl3 (by decide)))).symm
          have m11447 := m11407.trans (Wr.neR wH11427 (Or.inl (G_ne ga0 gl3 (by decide)))).symm
          have m11448 := m11408.trans (Wr.neR wH11427 (Or.inl (G_ne ga0 gl3 (by decide)))).symm
          have m11449 := m11409.trans (Wr.neR wH11427 (Or.inl (G_ne ga0 gl3 (by decide)))).symm
          have m11450 := m11410.trans (Wr.neR wH11427 (Or.inl (G_ne ga0 gl3 (by decide)))).symm
          have m11451 := m11411.trans (Wr.neR wH11427 (Or.inl (G_ne ga0 gl3 (by decide)))).symm
          have m11452 := m11412.trans (Wr.neR wH11427 (Or.inl (G_ne ga0 gl3 (by decide)))).symm
          have m11453 := m11413.trans (Wr.neR wH11427 (Or.inl (G_ne ga0 gl3 (by decide)))).symm
          have m11454 := m11414.trans (Wr.neR wH11427 (Or.inl (G_ne ga0 gl3 (by decide)))).symm
          have m11455 := m11415.trans (Wr.neR wH11427 (Or.inl (G_ne ga0 gl3 (by decide)))).symm
          have m11456 := m11416.trans (Wr.neR wH11427 (Or.inl (G_ne ga0 gl3 (by decide)))).symm
          have m11457 := m11417.trans (Wr.neI wH11427 (Or.inl (G_ne glsq gl3 (by decide)))).symm
          have m11458 := m11418.trans (Wr.neI wH11427 (Or.inl (G_ne gl1 gl3 (by decide)))).symm
          have m11459 := m11420.trans (Wr.neI wH11427 (Or.inl (G_ne gl2 gl3 (by decide)))).symm
          have m11461 := Wr.I wH11427
          have m11461 := m11461.symm
          clear b11392 b11393 b11394 b11395 b11396 b11397 b11398 b11399 b11400 b11401 ex11426 f11402 f11403 g11389 g11390 g11391 hTH11387 m11404 m11405 m11406 m11407 m11408 m11409 m11410 m11411 m11412 m11413 m11414 m11415 m11416 m11417 m11418 m11420 mf11388
          clear tx11422 tx11423 tx11425 bx11426 ex11422 ex11423 ex11425
          refine lv_aload_n hx hb dX10_text_251 rfl (lv_at hl11295 0 rfl) ?_
          refine x_gr C hTH11427 (ci := 10) (k := 29) rfl inX10 (by decide) wF_X10_74 ga0 rg_112 rfl dX10_text_252 (fun q11462 eq11462 gq11462 => ?_)
          have uq11462 : f9 = q11462 := (m11448).trans eq11462.symm
          subst uq11462
          clear eq11462
          refine lv_bipush (v := 16) hx hb dX10_text_255 (by decide) ?_
          refine lv_iload hx hb dX10_text_257 (lv_at hl11295 2 rfl) ?_
          refine lv_imul hx hb dX10_text_259 ?_
          refine lv_topi (fun x11463 ex11463 => ?_)
          have tx11463 := i_mul ex11463 (by rw [n_16]; omega)
          rw [n_16] at tx11463
          refine lv_iload hx hb dX10_text_260 (lv_at hl11295 3 rfl) ?_
          refine lv_iadd hx hb dX10_text_262 ?_
          refine lv_topi (fun x11464 ex11464 => ?_)
          have tx11464 := i_add ex11464 (by omega)
          refine lv_aload_n hx hb dX10_text_263 rfl (lv_at hl11295 0 rfl) ?_
          refine x_gr C hTH11427 (ci := 10) (k := 29) rfl inX10 (by decide) wF_X10_74 ga0 rg_112 rfl dX10_text_264 (fun q11465 eq11465 gq11465 => ?_)
          have uq11465 : f9 = q11465 := (m11448).trans eq11465.symm
          subst uq11465
          clear eq11465
          refine lv_bipush (v := 96) hx hb dX10_text_267 (by decide) ?_
          refine lv_iload hx hb dX10_text_269 (lv_at hl11295 3 rfl) ?_
          refine lv_iadd hx hb dX10_text_271 ?_
          refine lv_topi (fun x11466 ex11466 => ?_)
          have tx11466 := i_add ex11466 (by omega)
          refine x_ai C hTH11427 gf9 rg_133 ⟨by omega, by show _ < ((112 : Nat) : Int); omega⟩ dX10_text_272 (fun x11467 ex11467 bx11467 => ?_)
          refine x_iast C hTH11427 hSH11427 gf9 rg_133 (by omega) (by show _ < ((112 : Nat) : Int); omega) ⟨Int.le_trans (by decide) bx11467.1, Int.le_trans bx11467.2 (by decide)⟩ (AE_in gf9 (by decide)) dX10_text_273 (fun H11468 locsH11468 hTH11468 hSH11468 wH11468 => ?_)
          have mf11469 : MF K s.heap H11468 a0 [0, 18, 19, 20, 21, 22, 34, 35, 36, 38, 39, 40, 41, 42] := MF.arr wH11468 (G_ne ga0 gf9 (by decide)) mf11428
          have g11470 : TU (avw K H11468 a0) (svw K H11468 a0) := TU.congr (fun k hk j => av_arr hTH11427 ga0 wH11468 gf9 (by decide) (TU_ok 133 (by decide) k hk)) (fun k hk => sv_arr ga0 wH11468 gf9 (by decide)) g11429
          have g11471 : WD (avw K H11468 a0) := WD.congr (fun k hk j => av_arr hTH11427 ga0 wH11468 gf9 (by decide) (WD_ok 133 (by decide) k hk)) g11430
          have g11472 : IM (avw K H11468 a0) := IM.congr (fun k hk j => av_arr hTH11427 ga0 wH11468 gf9 (by decide) (IM_ok 133 (by decide) k hk)) g11431
          have b11473 : CP (fun k => fI H11468 f9 k) (fun k => fI H11165 f9 k) (16 * x11169.toNatClampNeg) (96) (x11296.toNatClampNeg + 1) := CP.step b11432 (i := x11464.toNatClampNeg) (k := x11466.toNatClampNeg) (x := x11467) (ix16 tx11463 tx11464 hrw.1 hlw.1) (le16 hrw hlw) (ixk n_96 tx11466 hlw.1) ex11467 (Wr.I wH11468) (fun j hj => Wr.neI wH11468 (Or.inr hj))
          have b11474 : CP (fun k => fI H11468 f0 k) (fun k => fI H11165 f0 k) (16 * x11169.toNatClampNeg) (96) (x11296.toNatClampNeg) := CP.congr (fun j => Wr.neI wH11468 (Or.inl (G_ne gf0 gf9 (by decide)))) b11433
          have b11475 : CP (fun k => fI H11468 f1 k) (fun k => fI H11165 f1 k) (16 * x11169.toNatClampNeg) (96) (x11296.toNatClampNeg) := CP.congr (fun j => Wr.neI wH11468 (Or.inl (G_ne gf1 gf9 (by decide)))) b11434
          have b11476 : CP (fun k => fI H11468 oq k) (fun k => fI H11165 oq k) (500 * x11169.toNatClampNeg) (3000) (0) := CP.congr (fun j => Wr.neI wH11468 (Or.inl (G_ne goq gf9 (by decide)))) b11435
          have b11477 : CP (fun k => fI H11468 aq k) (fun k => fI H11165 aq k) (500 * x11169.toNatClampNeg) (3000) (0) := CP.congr (fun j => Wr.neI wH11468 (Or.inl (G_ne gaq gf9 (by decide)))) b11436
          have b11478 : CP (fun k => fI H11468 mq k) (fun k => fI H11165 mq k) (0) (0) (0) := CP.congr (fun j => Wr.neI wH11468 (Or.inl (G_ne gmq gf9 (by decide)))) b11437
          have b11479 : CP (fun k => fI H11468 lsq k) (fun k => fI H11165 lsq k) (16 * x11169.toNatClampNeg) (96) (x11296.toNatClampNeg + 1) := CP.congr (fun j => Wr.neI wH11468 (Or.inl (G_ne glsq gf9 (by decide)))) b11438
          have b11480 : CP (fun k => fI H11468 l1 k) (fun k => fI H11165 l1 k) (16 * x11169.toNatClampNeg) (96) (x11296.toNatClampNeg + 1) := CP.congr (fun j => Wr.neI wH11468 (Or.inl (G_ne gl1 gf9 (by decide)))) b11439
          have b11481 : CP (fun k => fI H11468 l2 k) (fun k => fI H11165 l2 k) (16 * x11169.toNatClampNeg) (96) (x11296.toNatClampNeg + 1) := CP.congr (fun j => Wr.neI wH11468 (Or.inl (G_ne gl2 gf9 (by decide)))) b11440
          have b11482 : CP (fun k => fI H11468 l3 k) (fun k => fI H11165 l3 k) (16 * x11169.toNatClampNeg) (96) (x11296.toNatClampNeg + 1) := CP.congr (fun j => Wr.neI wH11468 (Or.inl (G_ne gl3 gf9 (by decide)))) b11441
          have f11483 : ∀ j : Nat, bt j = (fI H11468 tq j).toInt := fun j => (f11442 j).trans (congrArg Int32.toInt (Wr.neI wH11468 (Or.inl (G_ne gtq gf9 (by decide)))).symm)
          have f11484 : ∀ j : Nat, fI H11468 mq j = fI s.heap mq j := fun j => (Wr.neI wH11468 (Or.inl (G_ne gmq gf9 (by decide)))).trans (f11443 j)
          have m11485 := m11444.trans (Wr.neI wH11468 (Or.inl (G_ne ga0 gf9 (by decide)))).symm
          have m11486 := m11445.trans (Wr.neI wH11468 (Or.inl (G_ne ga0 gf9 (by decide)))).symm
          have m11487 := m11446.trans (Wr.neR wH11468 (Or.inl (G_ne ga0 gf9 (by decide)))).symm
          have m11488 := m11447.trans (Wr.neR wH11468 (Or.inl (G_ne ga0 gf9 (by decide)))).symm
          have m11489 := m11448.trans (Wr.neR wH11468 (Or.inl (G_ne ga0 gf9 (by decide)))).symm
          have m11490 := m11449.trans (Wr.neR wH11468 (Or.inl (G_ne ga0 gf9 (by decide)))).symm
          have m11491 := m11450.trans (Wr.neR wH11468 (Or.inl (G_ne ga0 gf9 (by decide)))).symm
          have m11492 := m11451.trans (Wr.neR wH11468 (Or.inl (G_ne ga0 gf9 (by decide)))).symm
          have m11493 := m11452.trans (Wr.neR wH11468 (Or.inl (G_ne ga0 gf9 (by decide)))).symm
          have m11494 := m11453.trans (Wr.neR wH11468 (Or.inl (G_ne ga0 gf9 (by decide)))).symm
          have m11495 := m11454.trans (Wr.neR wH11468 (Or.inl (G_ne ga0 gf9 (by decide)))).symm
          have m11496 := m11455.trans (Wr.neR wH11468 (Or.inl (G_ne ga0 gf9 (by decide)))).symm
          have m11497 := m11456.trans (Wr.neR wH11468 (Or.inl (G_ne ga0 gf9 (by decide)))).symm
          have m11498 := m11457.trans (Wr.neI wH11468 (Or.inl (G_ne glsq gf9 (by decide)))).symm
          have m11499 := m11458.trans (Wr.neI wH11468 (Or.inl (G_ne gl1 gf9 (by decide)))).symm
          have m11500 := m11459.trans (Wr.neI wH11468 (Or.inl (G_ne gl2 gf9 (by decide)))).symm
          have m11501 := m11461.trans (Wr.neI wH11468 (Or.inl (G_ne gl3 gf9 (by decide)))).symm
          have m11503 := Wr.I wH11468
          have m11503 := m11503.symm
          clear b11432 b11433 b11434 b11435 b11436 b11437 b11438 b11439 b11440 b11441 ex11467 f11442 f11443 g11429 g11430 g11431 hTH11427 m11444 m11445 m11446 m11447 m11448 m11449 m11450 m11451 m11452 m11453 m11454 m11455 m11456 m11457 m11458 m11459 m11461 mf11428
          clear tx11463 tx11464 tx11466 bx11467 ex11463 ex11464 ex11466
          refine lv_aload_n hx hb dX10_text_274 rfl (lv_at hl11295 0 rfl) ?_
          refine x_gr C hTH11468 (ci := 10) (k := 30) rfl inX10 (by decide) wF_X10_77 ga0 rg_112 rfl dX10_text_275 (fun q11504 eq11504 gq11504 => ?_)
          have uq11504 : f0 = q11504 := (m11490).trans eq11504.symm
          subst uq11504
          clear eq11504
          refine lv_bipush (v := 16) hx hb dX10_text_278 (by decide) ?_
          refine lv_iload hx hb dX10_text_280 (lv_at hl11295 2 rfl) ?_
          refine lv_imul hx hb dX10_text_282 ?_
          refine lv_topi (fun x11505 ex11505 => ?_)
          have tx11505 := i_mul ex11505 (by rw [n_16]; omega)
          rw [n_16] at tx11505
          refine lv_iload hx hb dX10_text_283 (lv_at hl11295 3 rfl) ?_
          refine lv_iadd hx hb dX10_text_285 ?_
          refine lv_topi (fun x11506 ex11506 => ?_)
          have tx11506 := i_add ex11506 (by omega)
          refine lv_aload_n hx hb dX10_text_286 rfl (lv_at hl11295 0 rfl) ?_
          refine x_gr C hTH11468 (ci := 10) (k := 30) rfl inX10 (by decide) wF_X10_77 ga0 rg_112 rfl dX10_text_287 (fun q11507 eq11507 gq11507 => ?_)
          have uq11507 : f0 = q11507 := (m11490).trans eq11507.symm
          subst uq11507
          clear eq11507
          refine lv_bipush (v := 96) hx hb dX10_text_290 (by decide) ?_
          refine lv_iload hx hb dX10_text_292 (lv_at hl11295 3 rfl) ?_
          refine lv_iadd hx hb dX10_text_294 ?_
          refine lv_topi (fun x11508 ex11508 => ?_)
          have tx11508 := i_add ex11508 (by omega)
          refine x_ai C hTH11468 gf0 rg_134 ⟨by omega, by show _ < ((112 : Nat) : Int); omega⟩ dX10_text_295 (fun x11509 ex11509 bx11509 => ?_)
          refine x_iast C hTH11468 hSH11468 gf0 rg_134 (by omega) (by show _ < ((112 : Nat) : Int); omega) ⟨Int.le_trans (by decide) bx11509.1, Int.le_trans bx11509.2 (by decide)⟩ (AE_in gf0 (by decide)) dX10_text_296 (fun H11510 locsH11510 hTH11510 hSH11510 wH11510 => ?_)
          have mf11511 : MF K s.heap H11510 a0 [0, 18, 19, 20, 21, 22, 34, 35, 36, 38, 39, 40, 41, 42] := MF.arr wH11510 (G_ne ga0 gf0 (by decide)) mf11469
          have g11512 : TU (avw K H11510 a0) (svw K H11510 a0) := TU.congr (fun k hk j => av_arr hTH11468 ga0 wH11510 gf0 (by decide) (TU_ok 134 (by decide) k hk)) (fun k hk => sv_arr ga0 wH11510 gf0 (by decide)) g11470
          have g11513 : WD (avw K H11510 a0) := WD.congr (fun k hk j => av_arr hTH11468 ga0 wH11510 gf0 (by decide) (WD_ok 134 (by decide) k hk)) g11471
          have g11514 : IM (avw K H11510 a0) := IM.congr (fun k hk j => av_arr hTH11468 ga0 wH11510 gf0 (by decide) (IM_ok 134 (by decide) k hk)) g11472
          have b11515 : CP (fun k => fI H11510 f9 k) (fun k => fI H11165 f9 k) (16 * x11169.toNatClampNeg) (96) (x11296.toNatClampNeg + 1) := CP.congr (fun j => Wr.neI wH11510 (Or.inl (G_ne gf9 gf0 (by decide)))) b11473
          have b11516 : CP (fun k => fI H11510 f0 k) (fun k => fI H11165 f0 k) (16 * x11169.toNatClampNeg) (96) (x11296.toNatClampNeg + 1) := CP.step b11474 (i := x11506.toNatClampNeg) (k := x11508.toNatClampNeg) (x := x11509) (ix16 tx11505 tx11506 hrw.1 hlw.1) (le16 hrw hlw) (ixk n_96 tx11508 hlw.1) ex11509 (Wr.I wH11510) (fun j hj => Wr.neI wH11510 (Or.inr hj))
          have b11517 : CP (fun k => fI H11510 f1 k) (fun k => fI H11165 f1 k) (16 * x11169.toNatClampNeg) (96) (x11296.toNatClampNeg) := CP.congr (fun j => Wr.neI wH11510 (Or.inl (G_ne gf1 gf0 (by decide)))) b11475
          have b11518 : CP (fun k => fI H11510 oq k) (fun k => fI H11165 oq k) (500 * x11169.toNatClampNeg) (3000) (0) := CP.congr (fun j => Wr.neI wH11510 (Or.inl (G_ne goq gf0 (by decide)))) b11476
          have b11519 : CP (fun k => fI H11510 aq k) (fun k => fI H11165 aq k) (500 * x11169.toNatClampNeg) (3000) (0) := CP.congr (fun j => Wr.neI wH11510 (Or.inl (G_ne gaq gf0 (by decide)))) b11477
          have b11520 : CP (fun k => fI H11510 mq k) (fun k => fI H11165 mq k) (0) (0) (0) := CP.congr (fun j => Wr.neI wH11510 (Or.inl (G_ne gmq gf0 (by decide)))) b11478
          have b11521 : CP (fun k => fI H11510 lsq k) (fun k => fI H11165 lsq k) (16 * x11169.toNatClampNeg) (96) (x11296.toNatClampNeg + 1) := CP.congr (fun j => Wr.neI wH11510 (Or.inl (G_ne glsq gf0 (by decide)))) b11479
          have b11522 : CP (fun k => fI H11510 l1 k) (fun k => fI H11165 l1 k) (16 * x11169.toNatClampNeg) (96) (x11296.toNatClampNeg + 1) := CP.congr (fun j => Wr.neI wH11510 (Or.inl (G_ne gl1 gf0 (by decide)))) b11480
          have b11523 : CP (fun k => fI H11510 l2 k) (fun k => fI H11165 l2 k) (16 * x11169.toNatClampNeg) (96) (x11296.toNatClampNeg + 1) := CP.congr (fun j => Wr.neI wH11510 (Or.inl (G_ne gl2 gf0 (by decide)))) b11481
          have b11524 : CP (fun k => fI H11510 l3 k) (fun k => fI H11165 l3 k) (16 * x11169.toNatClampNeg) (96) (x11296.toNatClampNeg + 1) := CP.congr (fun j => Wr.neI wH11510 (Or.inl (G_ne gl3 gf0 (by decide)))) b11482
          have f11525 : ∀ j : Nat, bt j = (fI H11510 tq j).toInt := fun j => (f11483 j).trans (congrArg Int32.toInt (Wr.neI wH11510 (Or.inl (G_ne gtq gf0 (by decide)))).symm)
          have f11526 : ∀ j : Nat, fI H11510 mq j = fI s.heap mq j := fun j => (Wr.neI wH11510 (Or.inl (G_ne gmq gf0 (by decide)))).trans (f11484 j)
          have m11527 := m11485.trans (Wr.neI wH11510 (Or.inl (G_ne ga0 gf0 (by decide)))).symm
          have m11528 := m11486.trans (Wr.neI wH11510 (Or.inl (G_ne ga0 gf0 (by decide)))).symm
          have m11529 := m11487.trans (Wr.neR wH11510 (Or.inl (G_ne ga0 gf0 (by decide)))).symm
          have m11530 := m11488.trans (Wr.neR wH11510 (Or.inl (G_ne ga0 gf0 (by decide)))).symm
          have m11531 := m11489.trans (Wr.neR wH11510 (Or.inl (G_ne ga0 gf0 (by decide)))).symm
          have m11532 := m11490.trans (Wr.neR wH11510 (Or.inl (G_ne ga0 gf0 (by decide)))).symm
          have m11533 := m11491.trans (Wr.neR wH11510 (Or.inl (G_ne ga0 gf0 (by decide)))).symm
          have m11534 := m11492.trans (Wr.neR wH11510 (Or.inl (G_ne ga0 gf0 (by decide)))).symm
          have m11535 := m11493.trans (Wr.neR wH11510 (Or.inl (G_ne ga0 gf0 (by decide)))).symm
          have m11536 := m11494.trans (Wr.neR wH11510 (Or.inl (G_ne ga0 gf0 (by decide)))).symm
          have m11537 := m11495.trans (Wr.neR wH11510 (Or.inl (G_ne ga0 gf0 (by decide)))).symm
          have m11538 := m11496.trans (Wr.neR wH11510 (Or.inl (G_ne ga0 gf0 (by decide)))).symm
          have m11539 := m11497.trans (Wr.neR wH11510 (Or.inl (G_ne ga0 gf0 (by decide)))).symm
          have m11540 := m11498.trans (Wr.neI wH11510 (Or.inl (G_ne glsq gf0 (by decide)))).symm
          have m11541 := m11499.trans (Wr.neI wH11510 (Or.inl (G_ne gl1 gf0 (by decide)))).symm
          have m11542 := m11500.trans (Wr.neI wH11510 (Or.inl (G_ne gl2 gf0 (by decide)))).symm
          have m11543 := m11501.trans (Wr.neI wH11510 (Or.inl (G_ne gl3 gf0 (by decide)))).symm
          have m11544 := m11503.trans (Wr.neI wH11510 (Or.inl (G_ne gf9 gf0 (by decide)))).symm
          have m11546 := Wr.I wH11510
          have m11546 := m11546.symm
          clear b11473 b11474 b11475 b11476 b11477 b11478 b11479 b11480 b11481 b11482 ex11509 f11483 f11484 g11470 g11471 g11472 hTH11468 m11485 m11486 m11487 m11488 m11489 m11490 m11491 m11492 m11493 m11494 m11495 m11496 m11497 m11498 m11499 m11500 m11501 m11503 mf11469
          clear tx11505 tx11506 tx11508 bx11509 ex11505 ex11506 ex11508
          refine lv_aload_n hx hb dX10_text_297 rfl (lv_at hl11295 0 rfl) ?_
          refine x_gr C hTH11510 (ci := 10) (k := 31) rfl inX10 (by decide) wF_X10_80 ga0 rg_112 rfl dX10_text_298 (fun q11547 eq11547 gq11547 => ?_)
          have uq11547 : f1 = q11547 := (m11533).trans eq11547.symm
          subst uq11547
          clear eq11547
          refine lv_bipush (v := 16) hx hb dX10_text_301 (by decide) ?_
          refine lv_iload hx hb dX10_text_303 (lv_at hl11295 2 rfl) ?_
          refine lv_imul hx hb dX10_text_305 ?_
          refine lv_topi (fun x11548 ex11548 => ?_)
          have tx11548 := i_mul ex11548 (by rw [n_16]; omega)
          rw [n_16] at tx11548
          refine lv_iload hx hb dX10_text_306 (lv_at hl11295 3 rfl) ?_
          refine lv_iadd hx hb dX10_text_308 ?_
          refine lv_topi (fun x11549 ex11549 => ?_)
          have tx11549 := i_add ex11549 (by omega)
          refine lv_aload_n hx hb dX10_text_309 rfl (lv_at hl11295 0 rfl) ?_
          refine x_gr C hTH11510 (ci := 10) (k := 31) rfl inX10 (by decide) wF_X10_80 ga0 rg_112 rfl dX10_text_310 (fun q11550 eq11550 gq11550 => ?_)
          have uq11550 : f1 = q11550 := (m11533).trans eq11550.symm
          subst uq11550
          clear eq11550
          refine lv_bipush (v := 96) hx hb dX10_text_313 (by decide) ?_
          refine lv_iload hx hb dX10_text_315 (lv_at hl11295 3 rfl) ?_
          refine lv_iadd hx hb dX10_text_317 ?_
          refine lv_topi (fun x11551 ex11551 => ?_)
          have tx11551 := i_add ex11551 (by omega)
          refine x_ai C hTH11510 gf1 rg_135 ⟨by omega, by show _ < ((112 : Nat) : Int); omega⟩ dX10_text_318 (fun x11552 ex11552 bx11552 => ?_)
          refine x_iast C hTH11510 hSH11510 gf1 rg_135 (by omega) (by show _ < ((112 : Nat) : Int); omega) ⟨Int.le_trans (by decide) bx11552.1, Int.le_trans bx11552.2 (by decide)⟩ (AE_in gf1 (by decide)) dX10_text_319 (fun H11553 locsH11553 hTH11553 hSH11553 wH11553 => ?_)
          have mf11554 : MF K s.heap H11553 a0 [0, 18, 19, 20, 21, 22, 34, 35, 36, 38, 39, 40, 41, 42] := MF.arr wH11553 (G_ne ga0 gf1 (by decide)) mf11511
          have g11555 : TU (avw K H11553 a0) (svw K H11553 a0) := TU.congr (fun k hk j => av_arr hTH11510 ga0 wH11553 gf1 (by decide) (TU_ok 135 (by decide) k hk)) (fun k hk => sv_arr ga0 wH11553 gf1 (by decide)) g11512
          have g11556 : WD (avw K H11553 a0) := WD.congr (fun k hk j => av_arr hTH11510 ga0 wH11553 gf1 (by decide) (WD_ok 135 (by decide) k hk)) g11513
          have g11557 : IM (avw K H11553 a0) := IM.congr (fun k hk j => av_arr hTH11510 ga0 wH11553 gf1 (by decide) (IM_ok 135 (by decide) k hk)) g11514
          have b11558 : CP (fun k => fI H11553 f9 k) (fun k => fI H11165 f9 k) (16 * x11169.toNatClampNeg) (96) (x11296.toNatClampNeg + 1) := CP.congr (fun j => Wr.neI wH11553 (Or.inl (G_ne gf9 gf1 (by decide)))) b11515
          have b11559 : CP (fun k => fI H11553 f0 k) (fun k => fI H11165 f0 k) (16 * x11169.toNatClampNeg) (96) (x11296.toNatClampNeg + 1) := CP.congr (fun j => Wr.neI wH11553 (Or.inl (G_ne gf0 gf1 (by decide)))) b11516
          have b11560 : CP (fun k => fI H11553 f1 k) (fun k => fI H11165 f1 k) (16 * x11169.toNatClampNeg) (96) (x11296.toNatClampNeg + 1) := CP.step b11517 (i := x11549.toNatClampNeg) (k := x11551.toNatClampNeg) (x := x11552) (ix16 tx11548 tx11549 hrw.1 hlw.1) (le16 hrw hlw) (ixk n_96 tx11551 hlw.1) ex11552 (Wr.I wH11553) (fun j hj => Wr.neI wH11553 (Or.inr hj))
          have b11561 : CP (fun k => fI H11553 oq k) (fun k => fI H11165 oq k) (500 * x11169.toNatClampNeg) (3000) (0) := CP.congr (fun j => Wr.neI wH11553 (Or.inl (G_ne goq gf1 (by decide)))) b11518
          have b11562 : CP (fun k => fI H11553 aq k) (fun k => fI H11165 aq k) (500 * x11169.toNatClampNeg) (3000) (0) := CP.congr (fun j => Wr.neI wH11553 (Or.inl (G_ne gaq gf1 (by decide)))) b11519
          have b11563 : CP (fun k => fI H11553 mq k) (fun k => fI H11165 mq k) (0) (0) (0) := CP.congr (fun j => Wr.neI wH11553 (Or.inl (G_ne gmq gf1 (by decide)))) b11520
          have b11564 : CP (fun k => fI H11553 lsq k) (fun k => fI H11165 lsq k) (16 * x11169.toNatClampNeg) (96) (x11296.toNatClampNeg + 1) := CP.congr (fun j => Wr.neI wH11553 (Or.inl (G_ne glsq gf1 (by decide)))) b11521
          have b11565 : CP (fun k => fI H11553 l1 k) (fun k => fI H11165 l1 k) (16 * x11169.toNatClampNeg) (96) (x11296.toNatClampNeg + 1) := CP.congr (fun j => Wr.neI wH11553 (Or.inl (G_ne gl1 gf1 (by decide)))) b11522
          have b11566 : CP (fun k => fI H11553 l2 k) (fun k => fI H11165 l2 k) (16 * x11169.toNatClampNeg) (96) (x11296.toNatClampNeg + 1) := CP.congr (fun j => Wr.neI wH11553 (Or.inl (G_ne gl2 gf1 (by decide)))) b11523
          have b11567 : CP (fun k => fI H11553 l3 k) (fun k => fI H11165 l3 k) (16 * x11169.toNatClampNeg) (96) (x11296.toNatClampNeg + 1) := CP.congr (fun j => Wr.neI wH11553 (Or.inl (G_ne gl3 gf1 (by decide)))) b11524
          have f11568 : ∀ j : Nat, bt j = (fI H11553 tq j).toInt := fun j => (f11525 j).trans (congrArg Int32.toInt (Wr.neI wH11553 (Or.inl (G_ne gtq gf1 (by decide)))).symm)
          have f11569 : ∀ j : Nat, fI H11553 mq j = fI s.heap mq j := fun j => (Wr.neI wH11553 (Or.inl (G_ne gmq gf1 (by decide)))).trans (f11526 j)
          have m11570 := m11527.trans (Wr.neI wH11553 (Or.inl (G_ne ga0 gf1 (by decide)))).symm
          have m11571 := m11528.trans (Wr.neI wH11553 (Or.inl (G_ne ga0 gf1 (by decide)))).symm
          have m11572 := m11529.trans (Wr.neR wH11553 (Or.inl (G_ne ga0 gf1 (by decide)))).symm
          have m11573 := m11530.trans (Wr.neR wH11553 (Or.inl (G_ne ga0 gf1 (by decide)))).symm
          have m11574 := m11531.trans (Wr.neR wH11553 (Or.inl (G_ne ga0 gf1 (by decide)))).symm
          have m11575 := m11532.trans (Wr.neR wH11553 (Or.inl (G_ne ga0 gf1 (by decide)))).symm
          have m11576 := m11533.trans (Wr.neR wH11553 (Or.inl (G_ne ga0 gf1 (by decide)))).symm
          have m11577 := m11534.trans (Wr.neR wH11553 (Or.inl (G_ne ga0 gf1 (by decide)))).symm
          have m11578 := m11535.trans (Wr.neR wH11553 (Or.inl (G_ne ga0 gf1 (by decide)))).symm
          have m11579 := m11536.trans (Wr.neR wH11553 (Or.inl (G_ne ga0 gf1 (by decide)))).symm
          have m11580 := m11537.trans (Wr.neR wH11553 (Or.inl (G_ne ga0 gf1 (by decide)))).symm
          have m11581 := m11538.trans (Wr.neR wH11553 (Or.inl (G_ne ga0 gf1 (by decide)))).symm
          have m11582 := m11539.trans (Wr.neR wH11553 (Or.inl (G_ne ga0 gf1 (by decide)))).symm
          have m11583 := m11540.trans (Wr.neI wH11553 (Or.inl (G_ne glsq gf1 (by decide)))).symm
          have m11584 := m11541.trans (Wr.neI wH11553 (Or.inl (G_ne gl1 gf1 (by decide)))).symm
          have m11585 := m11542.trans (Wr.neI wH11553 (Or.inl (G_ne gl2 gf1 (by decide)))).symm
          have m11586 := m11543.trans (Wr.neI wH11553 (Or.inl (G_ne gl3 gf1 (by decide)))).symm
          have m11587 := m11544.trans (Wr.neI wH11553 (Or.inl (G_ne gf9 gf1 (by decide)))).symm
          have m11588 := m11546.trans (Wr.neI wH11553 (Or.inl (G_ne gf0 gf1 (by decide)))).symm
          have m11590 := Wr.I wH11553
          have m11590 := m11590.symm
          clear b11515 b11516 b11517 b11518 b11519 b11520 b11521 b11522 b11523 b11524 ex11552 f11525 f11526 g11512 g11513 g11514 hTH11510 m11527 m11528 m11529 m11530 m11531 m11532 m11533 m11534 m11535 m11536 m11537 m11538 m11539 m11540 m11541 m11542 m11543 m11544 m11546 mf11511
          clear tx11548 tx11549 tx11551 bx11552 ex11548 ex11549 ex11551
          obtain ⟨x11591, ex11591⟩ : ∃ y : Int32, y = x11296 + 1 := ⟨_, rfl⟩
          have tx11591 := i_add ex11591 (by omega)
          refine lv_iinc (v := x11591) (lv' := [(6, .int x11591), (0, .ref a0), (4, .int x11168), (5, .int x11169)]) hx hb dX10_text_320 hl11295 (k := 3) rfl (by rw [ex11591]; rfl) (by decide) rfl (fun ls11592 hl11593 => ?_)
          refine lv_goto (tgt := 152) hx hb dX10_text_323 (by decide) ?_
          have cl_x11169 := i_cl (x := x11169) (Int.le_trans (by decide) bx11169.1)
          have cl_x11296 := i_cl (x := x11296) bx11296.1
          have cl_x11591 := i_cl (x := x11591) (by omega)
          exact ih152 ls11592 H11553 locsH11553 (x11591) (x11297) (x11298) (lv_sub hl11593 [1, 2, 3, 0] rfl) hTH11553 hSH11553 ⟨by have := i_rng x11591; omega, by have := i_rng x11591; omega⟩ bx11297 bx11298 m11570 m11571 m11572 m11573 m11574 m11575 m11576 m11577 m11578 m11579 m11580 m11581 m11582 (CP.cast b11558 (by omega) (by omega) (by omega)) (CP.cast b11559 (by omega) (by omega) (by omega)) (CP.cast b11560 (by omega) (by omega) (by omega)) (CP.cast b11561 (by omega) (by omega) (by omega)) (CP.cast b11562 (by omega) (by omega) (by omega)) (CP.cast b11563 (by omega) (by omega) (by omega)) (CP.cast b11564 (by omega) (by omega) (by omega)) (CP.cast b11565 (by omega) (by omega) (by omega)) (CP.cast b11566 (by omega) (by omega) (by omega)) (CP.cast b11567 (by omega) (by omega) (by omega)) mf11554 g11555 g11556 g11557 f11568 f11569 (by omega) (by omega)
    refine lv_iconst (v := 0) hx hb dX10_text_149 (by decide) ?_
    refine lv_istore (lv' := [(6, .int 0), (0, .ref a0), (4, .int x11168), (5, .int x11169)]) hx hb dX10_text_150 hl11167 (by decide) rfl (fun ls11594 hl11595 => ?_)
    have csz : CP (fun k => fI H11165 lsq k) (fun k => fI H11165 lsq k) (16 * x11169.toNatClampNeg) (96) (0) := CP.rf rfl
    have cAz : CP (fun k => fI H11165 l1 k) (fun k => fI H11165 l1 k) (16 * x11169.toNatClampNeg) (96) (0) := CP.rf rfl
    have cBz : CP (fun k => fI H11165 l2 k) (fun k => fI H11165 l2 k) (16 * x11169.toNatClampNeg) (96) (0) := CP.rf rfl
    have cDz : CP (fun k => fI H11165 l3 k) (fun k => fI H11165 l3 k) (16 * x11169.toNatClampNeg) (96) (0) := CP.rf rfl
    have c9z : CP (fun k => fI H11165 f9 k) (fun k => fI H11165 f9 k) (16 * x11169.toNatClampNeg) (96) (0) := CP.rf rfl
    have c0z : CP (fun k => fI H11165 f0 k) (fun k => fI H11165 f0 k) (16 * x11169.toNatClampNeg) (96) (0) := CP.rf rfl
    have c1z : CP (fun k => fI H11165 f1 k) (fun k => fI H11165 f1 k) (16 * x11169.toNatClampNeg) (96) (0) := CP.rf rfl
    have coz : CP (fun k => fI H11165 oq k) (fun k => fI H11165 oq k) (500 * x11169.toNatClampNeg) (3000) (0) := CP.rf rfl
    have caz : CP (fun k => fI H11165 aq k) (fun k => fI H11165 aq k) (500 * x11169.toNatClampNeg) (3000) (0) := CP.rf rfl
    have cmz : CP (fun k => fI H11165 mq k) (fun k => fI H11165 mq k) (0) (0) (0) := CP.rf rfl
    have cl00 : (0 : Int32).toNatClampNeg = 0 := rfl
    have cl_0 := i_cl (x := (0 : Int32)) (by omega)
    have cl_x11169 := i_cl (x := x11169) (Int.le_trans (by decide) bx11169.1)
    have cl_0 := i_cl (x := (0 : Int32)) (by omega)
    have cl_0 := i_cl (x := (0 : Int32)) (by omega)
    have cl_0 := i_cl (x := (0 : Int32)) (by omega)
    have cl_0 := i_cl (x := (0 : Int32)) (by omega)
    have cl_0 := i_cl (x := (0 : Int32)) (by omega)
    have cl_0 := i_cl (x := (0 : Int32)) (by omega)
    exact J152 ((16 - (0 : Int32).toInt).toNat + 1) ls11594 H11165 locsH11165 (0) (x11170) (x11171) (lv_sub hl11595 [1, 2, 3, 0] rfl) hTH11165 hSH11165 (by decide) bx11170 bx11171 ex11170 ex11171 cy11172_0 cy11172_1 cy11172_2 cy11172_3 cy11172_4 cy11172_5 cy11172_6 cy11172_7 cy11172_8 cy11172_9 cy11172_10 (CP.cast c9z (by omega) (by omega) (by omega)) (CP.cast c0z (by omega) (by omega) (by omega)) (CP.cast c1z (by omega) (by omega) (by omega)) (CP.cast coz (by omega) (by omega) (by omega)) (CP.cast caz (by omega) (by omega) (by omega)) (CP.cast cmz (by omega) (by omega) (by omega)) (CP.cast csz (by omega) (by omega) (by omega)) (CP.cast cAz (by omega) (by omega) (by omega)) (CP.cast cBz (by omega) (by omega) (by omega)) (CP.cast cDz (by omega) (by omega) (by omega)) mfy11172 gy11172_TU gy11172_WD gy11172_IM fy11172_bt fy11172_mo (by omega) (by omega)
  refine lv_aload_n hx hb dX10_text_0 rfl (lv_at hl 0 rfl) ?_
  refine lv_iconst (v := 0) hx hb dX10_text_1 (by decide) ?_
  refine x_put C hT hS (ci := 10) (k := 0) (v := .int 0) (ty0 := tyX10) rfl inX10 tyX10_ok nmX10 (by decide) rfl wF_X10_167 ga0 rg_112 rfl rfl (okI (i_rng (0 : Int32)).1 (i_rng (0 : Int32)).2) rfl rfl (AE_in ga0 (by decide)) dX10_text_2 (fun H11596 locsH11596 hTH11596 hSH11596 wH11596 => ?_)
  have mf11597 : MF K s.heap H11596 a0 [0, 18, 19, 20, 21, 22, 34, 35, 36, 38, 39, 40, 41, 42] := MF.fld hap wH11596 (by decide) (by decide) mf0
  have g11598 : CG (avw K H11596 a0) := CG.congr (fun k hk j => av_fld hT ga0 hap wH11596 (by decide) (CG_ok 112 (by decide) k hk) (CG_ne 0 (by decide) k hk)) hg_CG
  have g11599 : TU (avw K H11596 a0) (svw K H11596 a0) := TU.congr (fun k hk j => av_fld hT ga0 hap wH11596 (by decide) (TU_ok 112 (by decide) k hk) (TU_ne 0 (by decide) k hk)) (fun k hk => sv_fld hap wH11596 (by decide) (TU_slt k hk) (TU_sne 0 (by decide) k hk)) hg_TU
  have g11600 : WD (avw K H11596 a0) := WD.congr (fun k hk j => av_fld hT ga0 hap wH11596 (by decide) (WD_ok 112 (by decide) k hk) (WD_ne 0 (by decide) k hk)) hg_WD
  have g11601 : IM (avw K H11596 a0) := IM.congr (fun k hk j => av_fld hT ga0 hap wH11596 (by decide) (IM_ok 112 (by decide) k hk) (IM_ne 0 (by decide) k hk)) hg_IM
  have f11602 : ∀ j : Nat, bt j = (fI H11596 tq j).toInt := fun j => (f0_bt j).trans (congrArg Int32.toInt (Wr.neI wH11596 (Or.inl (G_ne gtq ga0 (by decide)))).symm)
  have f11603 : ∀ j : Nat, fI H11596 mq j = fI s.heap mq j := fun j => (Wr.neI wH11596 (Or.inl (G_ne gmq ga0 (by decide)))).trans (f0_mo j)
  have m11604 := eoq.trans (Wr.neR wH11596 (Or.inr (x_apart hKT hts inX10 tyX10 tyX10_ok nmX10 rfl 32 0 (by decide) (by decide) (by decide)))).symm
  have m11605 := eaq.trans (Wr.neR wH11596 (Or.inr (x_apart hKT hts inX10 tyX10 tyX10_ok nmX10 rfl 33 0 (by decide) (by decide) (by decide)))).symm
  have m11606 := ef9.trans (Wr.neR wH11596 (Or.inr (x_apart hKT hts inX10 tyX10 tyX10_ok nmX10 rfl 29 0 (by decide) (by decide) (by decide)))).symm
  have m11607 := ef0.trans (Wr.neR wH11596 (Or.inr (x_apart hKT hts inX10 tyX10 tyX10_ok nmX10 rfl 30 0 (by decide) (by decide) (by decide)))).symm
  have m11608 := ef1.trans (Wr.neR wH11596 (Or.inr (x_apart hKT hts inX10 tyX10 tyX10_ok nmX10 rfl 31 0 (by decide) (by decide) (by decide)))).symm
  have m11609 := emq.trans (Wr.neR wH11596 (Or.inr (x_apart hKT hts inX10 tyX10 tyX10_ok nmX10 rfl 24 0 (by decide) (by decide) (by decide)))).symm
  have m11610 := etq.trans (Wr.neR wH11596 (Or.inr (x_apart hKT hts inX10 tyX10 tyX10_ok nmX10 rfl 17 0 (by decide) (by decide) (by decide)))).symm
  have m11611 := el1.trans (Wr.neR wH11596 (Or.inr (x_apart hKT hts inX10 tyX10 tyX10_ok nmX10 rfl 26 0 (by decide) (by decide) (by decide)))).symm
  have m11612 := el2.trans (Wr.neR wH11596 (Or.inr (x_apart hKT hts inX10 tyX10 tyX10_ok nmX10 rfl 27 0 (by decide) (by decide) (by decide)))).symm
  have m11613 := el3.trans (Wr.neR wH11596 (Or.inr (x_apart hKT hts inX10 tyX10 tyX10_ok nmX10 rfl 28 0 (by decide) (by decide) (by decide)))).symm
  have m11614 := elsq.trans (Wr.neR wH11596 (Or.inr (x_apart hKT hts inX10 tyX10 tyX10_ok nmX10 rfl 25 0 (by decide) (by decide) (by decide)))).symm
  have m11615 := emn.trans (Wr.neI wH11596 (Or.inr (x_apart hKT hts inX10 tyX10 tyX10_ok nmX10 rfl 35 0 (by decide) (by decide) (by decide)))).symm
  have m11616 := etp.trans (Wr.neI wH11596 (Or.inr (x_apart hKT hts inX10 tyX10 tyX10_ok nmX10 rfl 18 0 (by decide) (by decide) (by decide)))).symm
  have m11617 := Wr.I wH11596
  clear eaq ef0 ef1 ef9 el1 el2 el3 elsq emn emq eoq etp etq f0_bt f0_mo mf0
  refine lv_aload_n hx hb dX10_text_5 rfl (lv_at hl 0 rfl) ?_
  refine lv_iconst (v := 0) hx hb dX10_text_6 (by decide) ?_
  refine x_put C hTH11596 hSH11596 (ci := 10) (k := 41) (v := .int 0) (ty0 := tyX10) rfl inX10 tyX10_ok nmX10 (by decide) rfl wF_X10_292 ga0 rg_112 rfl rfl (okI (i_rng (0 : Int32)).1 (i_rng (0 : Int32)).2) rfl rfl (AE_in ga0 (by decide)) dX10_text_7 (fun H11618 locsH11618 hTH11618 hSH11618 wH11618 => ?_)
  have mf11619 : MF K s.heap H11618 a0 [0, 18, 19, 20, 21, 22, 34, 35, 36, 38, 39, 40, 41, 42] := MF.fld hap wH11618 (by decide) (by decide) mf11597
  have g11620 : CG (avw K H11618 a0) := CG.congr (fun k hk j => av_fld hTH11596 ga0 hap wH11618 (by decide) (CG_ok 112 (by decide) k hk) (CG_ne 41 (by decide) k hk)) g11598
  have g11621 : TU (avw K H11618 a0) (svw K H11618 a0) := TU.congr (fun k hk j => av_fld hTH11596 ga0 hap wH11618 (by decide) (TU_ok 112 (by decide) k hk) (TU_ne 41 (by decide) k hk)) (fun k hk => sv_fld hap wH11618 (by decide) (TU_slt k hk) (TU_sne 41 (by decide) k hk)) g11599
  have g11622 : WD (avw K H11618 a0) := WD.congr (fun k hk j => av_fld hTH11596 ga0 hap wH11618 (by decide) (WD_ok 112 (by decide) k hk) (WD_ne 41 (by decide) k hk)) g11600
  have g11623 : IM (avw K H11618 a0) := IM.congr (fun k hk j => av_fld hTH11596 ga0 hap wH11618 (by decide) (IM_ok 112 (by decide) k hk) (IM_ne 41 (by decide) k hk)) g11601
  have f11624 : ∀ j : Nat, bt j = (fI H11618 tq j).toInt := fun j => (f11602 j).trans (congrArg Int32.toInt (Wr.neI wH11618 (Or.inl (G_ne gtq ga0 (by decide)))).symm)
  have f11625 : ∀ j : Nat, fI H11618 mq j = fI s.heap mq j := fun j => (Wr.neI wH11618 (Or.inl (G_ne gmq ga0 (by decide)))).trans (f11603 j)
  have m11626 := m11604.trans (Wr.neR wH11618 (Or.inr (x_apart hKT hts inX10 tyX10 tyX10_ok nmX10 rfl 32 41 (by decide) (by decide) (by decide)))).symm
  have m11627 := m11605.trans (Wr.neR wH11618 (Or.inr (x_apart hKT hts inX10 tyX10 tyX10_ok nmX10 rfl 33 41 (by decide) (by decide) (by decide)))).symm
  have m11628 := m11606.trans (Wr.neR wH11618 (Or.inr (x_apart hKT hts inX10 tyX10 tyX10_ok nmX10 rfl 29 41 (by decide) (by decide) (by decide)))).symm
  have m11629 := m11607.trans (Wr.neR wH11618 (Or.inr (x_apart hKT hts inX10 tyX10 tyX10_ok nmX10 rfl 30 41 (by decide) (by decide) (by decide)))).symm
  have m11630 := m11608.trans (Wr.neR wH11618 (Or.inr (x_apart hKT hts inX10 tyX10 tyX10_ok nmX10 rfl 31 41 (by decide) (by decide) (by decide)))).symm
  have m11631 := m11609.trans (Wr.neR wH11618 (Or.inr (x_apart hKT hts inX10 tyX10 tyX10_ok nmX10 rfl 24 41 (by decide) (by decide) (by decide)))).symm
  have m11632 := m11610.trans (Wr.neR wH11618 (Or.inr (x_apart hKT hts inX10 tyX10 tyX10_ok nmX10 rfl 17 41 (by decide) (by decide) (by decide)))).symm
  have m11633 := m11611.trans (Wr.neR wH11618 (Or.inr (x_apart hKT hts inX10 tyX10 tyX10_ok nmX10 rfl 26 41 (by decide) (by decide) (by decide)))).symm
  have m11634 := m11612.trans (Wr.neR wH11618 (Or.inr (x_apart hKT hts inX10 tyX10 tyX10_ok nmX10 rfl 27 41 (by decide) (by decide) (by decide)))).symm
  have m11635 := m11613.trans (Wr.neR wH11618 (Or.inr (x_apart hKT hts inX10 tyX10 tyX10_ok nmX10 rfl 28 41 (by decide) (by decide) (by decide)))).symm
  have m11636 := m11614.trans (Wr.neR wH11618 (Or.inr (x_apart hKT hts inX10 tyX10 tyX10_ok nmX10 rfl 25 41 (by decide) (by decide) (by decide)))).symm
  have m11637 := m11615.trans (Wr.neI wH11618 (Or.inr (x_apart hKT hts inX10 tyX10 tyX10_ok nmX10 rfl 35 41 (by decide) (by decide) (by decide)))).symm
  have m11638 := m11616.trans (Wr.neI wH11618 (Or.inr (x_apart hKT hts inX10 tyX10 tyX10_ok nmX10 rfl 18 41 (by decide) (by decide) (by decide)))).symm
  have m11639 := (Wr.neI wH11618 (Or.inr (x_apart hKT hts inX10 tyX10 tyX10_ok nmX10 rfl 0 41 (by decide) (by decide) (by decide)))).trans m11617
  have m11640 := Wr.I wH11618
  clear f11602 f11603 g11598 g11599 g11600 g11601 hTH11596 m11604 m11605 m11606 m11607 m11608 m11609 m11610 m11611 m11612 m11613 m11614 m11615 m11616 m11617 mf11597
  refine lv_aload_n hx hb dX10_text_10 rfl (lv_at hl 0 rfl) ?_
  refine lv_iconst (v := (-1)) hx hb dX10_text_11 (by decide) ?_
  refine x_put C hTH11618 hSH11618 (ci := 10) (k := 42) (v := .int (-1)) (ty0 := tyX10) rfl inX10 tyX10_ok nmX10 (by decide) rfl wF_X10_92 ga0 rg_112 rfl rfl (okI (i_rng ((-1) : Int32)).1 (i_rng ((-1) : Int32)).2) rfl rfl (AE_in ga0 (by decide)) dX10_text_12 (fun H11641 locsH11641 hTH11641 hSH11641 wH11641 => ?_)
  have mf11642 : MF K s.heap H11641 a0 [0, 18, 19, 20, 21, 22, 34, 35, 36, 38, 39, 40, 41, 42] := MF.fld hap wH11641 (by decide) (by decide) mf11619
  have g11643 : CG (avw K H11641 a0) := CG.congr (fun k hk j => av_fld hTH11618 ga0 hap wH11641 (by decide) (CG_ok 112 (by decide) k hk) (CG_ne 42 (by decide) k hk)) g11620
  have g11644 : TU (avw K H11641 a0) (svw K H11641 a0) := TU.congr (fun k hk j => av_fld hTH11618 ga0 hap wH11641 (by decide) (TU_ok 112 (by decide) k hk) (TU_ne 42 (by decide) k hk)) (fun k hk => sv_fld hap wH11641 (by decide) (TU_slt k hk) (TU_sne 42 (by decide) k hk)) g11621
  have g11645 : WD (avw K H11641 a0) := WD.congr (fun k hk j => av_fld hTH11618 ga0 hap wH11641 (by decide) (WD_ok 112 (by decide) k hk) (WD_ne 42 (by decide) k hk)) g11622
  have g11646 : IM (avw K H11641 a0) := IM.congr (fun k hk j => av_fld hTH11618 ga0 hap wH11641 (by decide) (IM_ok 112 (by decide) k hk) (IM_ne 42 (by decide) k hk)) g11623
  have f11647 : ∀ j : Nat, bt j = (fI H11641 tq j).toInt := fun j => (f11624 j).trans (congrArg Int32.toInt (Wr.neI wH11641 (Or.inl (G_ne gtq ga0 (by decide)))).symm)
  have f11648 : ∀ j : Nat, fI H11641 mq j = fI s.heap mq j := fun j => (Wr.neI wH11641 (Or.inl (G_ne gmq ga0 (by decide)))).trans (f11625 j)
  have m11649 := m11626.trans (Wr.neR wH11641 (Or.inr (x_apart hKT hts inX10 tyX10 tyX10_ok nmX10 rfl 32 42 (by decide) (by decide) (by decide)))).symm
  have m11650 := m11627.trans (Wr.neR wH11641 (Or.inr (x_apart hKT hts inX10 tyX10 tyX10_ok nmX10 rfl 33 42 (by decide) (by decide) (by decide)))).symm
  have m11651 := m11628.trans (Wr.neR wH11641 (Or.inr (x_apart hKT hts inX10 tyX10 tyX10_ok nmX10 rfl 29 42 (by decide) (by decide) (by decide)))).symm
  have m11652 := m11629.trans (Wr.neR wH11641 (Or.inr (x_apart hKT hts inX10 tyX10 tyX10_ok nmX10 rfl 30 42 (by decide) (by decide) (by decide)))).symm
  have m11653 := m11630.trans (Wr.neR wH11641 (Or.inr (x_apart hKT hts inX10 tyX10 tyX10_ok nmX10 rfl 31 42 (by decide) (by decide) (by decide)))).symm
  have m11654 := m11631.trans (Wr.neR wH11641 (Or.inr (x_apart hKT hts inX10 tyX10 tyX10_ok nmX10 rfl 24 42 (by decide) (by decide) (by decide)))).symm
  have m11655 := m11632.trans (Wr.neR wH11641 (Or.inr (x_apart hKT hts inX10 tyX10 tyX10_ok nmX10 rfl 17 42 (by decide) (by decide) (by decide)))).symm
  have m11656 := m11633.trans (Wr.neR wH11641 (Or.inr (x_apart hKT hts inX10 tyX10 tyX10_ok nmX10 rfl 26 42 (by decide) (by decide) (by decide)))).symm
  have m11657 := m11634.trans (Wr.neR wH11641 (Or.inr (x_apart hKT hts inX10 tyX10 tyX10_ok nmX10 rfl 27 42 (by decide) (by decide) (by decide)))).symm
  have m11658 := m11635.trans (Wr.neR wH11641 (Or.inr (x_apart hKT hts inX10 tyX10 tyX10_ok nmX10 rfl 28 42 (by decide) (by decide) (by decide)))).symm
  have m11659 := m11636.trans (Wr.neR wH11641 (Or.inr (x_apart hKT hts inX10 tyX10 tyX10_ok nmX10 rfl 25 42 (by decide) (by decide) (by decide)))).symm
  have m11660 := m11637.trans (Wr.neI wH11641 (Or.inr (x_apart hKT hts inX10 tyX10 tyX10_ok nmX10 rfl 35 42 (by decide) (by decide) (by decide)))).symm
  have m11661 := m11638.trans (Wr.neI wH11641 (Or.inr (x_apart hKT hts inX10 tyX10 tyX10_ok nmX10 rfl 18 42 (by decide) (by decide) (by decide)))).symm
  have m11662 := (Wr.neI wH11641 (Or.inr (x_apart hKT hts inX10 tyX10 tyX10_ok nmX10 rfl 0 42 (by decide) (by decide) (by decide)))).trans m11639
  have m11663 := (Wr.neI wH11641 (Or.inr (x_apart hKT hts inX10 tyX10 tyX10_ok nmX10 rfl 41 42 (by decide) (by decide) (by decide)))).trans m11640
  have m11664 := Wr.I wH11641
  clear f11624 f11625 g11620 g11621 g11622 g11623 hTH11618 m11626 m11627 m11628 m11629 m11630 m11631 m11632 m11633 m11634 m11635 m11636 m11637 m11638 m11639 m11640 mf11619
  refine lv_iload_n hx hb dX10_text_15 rfl (lv_at hl 1 rfl) ?_
  refine lv_if_ne (tgt := 29) hx hb dX10_text_16 (by decide) (fun c11665 => ?_) (fun c11665 => ?_)
  · have k11666 := i_ne c11665
    refine lv_iload_n hx hb dX10_text_29 rfl (lv_at hl 1 rfl) ?_
    refine lv_iconst (v := 1) hx hb dX10_text_30 (by decide) ?_
    refine lv_icmp_ne (tgt := 48) hx hb dX10_text_31 (by decide) (fun c11667 => ?_) (fun c11667 => ?_)
    · have k11668 := i_ne c11667
      exfalso
      omega
    · have k11668 := i_eq c11667
      refine lv_aload_n hx hb dX10_text_34 rfl (lv_at hl 0 rfl) ?_
      refine lv_iload_n hx hb dX10_text_35 rfl (lv_at hl 2 rfl) ?_
      refine lv_iconst (v := 0) hx hb dX10_text_36 (by decide) ?_
      refine lv_iconst (v := 3) hx hb dX10_text_37 (by decide) ?_
      refine x_V (As := [.int x2, .int 0, .int 3]) (rest := []) C (c_X10_isIn l K G H11641 (x2) (0) (3) hTH11641 ga0) yo_X10_isIn wM_X10_177 ⟨⟨by decide, by decide⟩, by decide, by decide⟩ (x_rv C hTH11641 (ci := 10) rfl ga0 rg_112) rfl hl.1 rfl (Nat.le_of_ble_eq_true rfl) dX10_text_38 hSH11641 (AE_sub (fun _ _ => rfl) (by decide) hSH11641.1) (fun vH11669 H11669 locsH11669 pH11669 zH11669 kH11669 hSH11669 => ?_)
      have hqH11669 := pH11669.1.symm
      subst hqH11669
      rcases pH11669.2 with ⟨hvH11669, hcH11669⟩ | ⟨hvH11669, hcH11669⟩
      · subst hvH11669
        refine W.eq (g2 := F0 m 41 ls [.int 1]) rfl ?_
        refine lv_if_eq (tgt := 48) hx hb dX10_text_41 (by decide) (fun c11670 => ?_) (fun c11670 => ?_)
        · have k11671 := i_eq c11670
          exfalso
          omega
        · have k11671 := i_ne c11670
          refine lv_iconst (v := 1) hx hb dX10_text_44 (by decide) ?_
          refine lv_goto (tgt := 49) hx hb dX10_text_45 (by decide) ?_
          refine lv_istore_n (lv' := [(3, .int 1), (0, .ref a0), (1, .int x1), (2, .int x2)]) hx hb dX10_text_49 rfl hl (by decide) rfl (fun ls11672 hl11673 => ?_)
          refine lv_aload_n hx hb dX10_text_50 rfl (lv_at hl11673 1 rfl) ?_
          refine lv_iload_n hx hb dX10_text_51 rfl (lv_at hl11673 2 rfl) ?_
          refine lv_iconst (v := 1) hx hb dX10_text_52 (by decide) ?_
          refine lv_icmp_ne (tgt := 60) hx hb dX10_text_53 (by decide) (fun c11674 => ?_) (fun c11674 => ?_)
          · have k11675 := i_ne c11674
            exfalso
            omega
          · have k11675 := i_eq c11674
            refine lv_iconst (v := 1) hx hb dX10_text_56 (by decide) ?_
            refine lv_goto (tgt := 61) hx hb dX10_text_57 (by decide) ?_
            refine x_put C hTH11641 hSH11669 (ci := 10) (k := 34) (v := .int 1) (ty0 := tyX10) rfl inX10 tyX10_ok nmX10 (by decide) rfl wF_X10_231 ga0 rg_112 rfl rfl (okI (by have := i_rng (1 : Int32); omega) (by have := i_rng (1 : Int32); omega)) rfl rfl (AE_in ga0 (by decide)) dX10_text_61 (fun H11676 locsH11676 hTH11676 hSH11676 wH11676 => ?_)
            have mf11677 : MF K s.heap H11676 a0 [0, 18, 19, 20, 21, 22, 34, 35, 36, 38, 39, 40, 41, 42] := MF.fld hap wH11676 (by decide) (by decide) mf11642
            have g11678 : CG (avw K H11676 a0) := CG.congr (fun k hk j => av_fld hTH11641 ga0 hap wH11676 (by decide) (CG_ok 112 (by decide) k hk) (CG_ne 34 (by decide) k hk)) g11643
            have g11679 : TU (avw K H11676 a0) (svw K H11676 a0) := TU.congr (fun k hk j => av_fld hTH11641 ga0 hap wH11676 (by decide) (TU_ok 112 (by decide) k hk) (TU_ne 34 (by decide) k hk)) (fun k hk => sv_fld hap wH11676 (by decide) (TU_slt k hk) (TU_sne 34 (by decide) k hk)) g11644
            have g11680 : WD (avw K H11676 a0) := WD.congr (fun k hk j => av_fld hTH11641 ga0 hap wH11676 (by decide) (WD_ok 112 (by decide) k hk) (WD_ne 34 (by decide) k hk)) g11645
            have g11681 : IM (avw K H11676 a0) := IM.congr (fun k hk j => av_fld hTH11641 ga0 hap wH11676 (by decide) (IM_ok 112 (by decide) k hk) (IM_ne 34 (by decide) k hk)) g11646
            have f11682 : ∀ j : Nat, bt j = (fI H11676 tq j).toInt := fun j => (f11647 j).trans (congrArg Int32.toInt (Wr.neI wH11676 (Or.inl (G_ne gtq ga0 (by decide)))).symm)
            have f11683 : ∀ j : Nat, fI H11676 mq j = fI s.heap mq j := fun j => (Wr.neI wH11676 (Or.inl (G_ne gmq ga0 (by decide)))).trans (f11648 j)
            have m11684 := m11649.trans (Wr.neR wH11676 (Or.inr (x_apart hKT hts inX10 tyX10 tyX10_ok nmX10 rfl 32 34 (by decide) (by decide) (by decide)))).symm
            have m11685 := m11650.trans (Wr.neR wH11676 (Or.inr (x_apart hKT hts inX10 tyX10 tyX10_ok nmX10 rfl 33 34 (by decide) (by decide) (by decide)))).symm
            have m11686 := m11651.trans (Wr.neR wH11676 (Or.inr (x_apart hKT hts inX10 tyX10 tyX10_ok nmX10 rfl 29 34 (by decide) (by decide) (by decide)))).symm
            have m11687 := m11652.trans (Wr.neR wH11676 (Or.inr (x_apart hKT hts inX10 tyX10 tyX10_ok nmX10 rfl 30 34 (by decide) (by decide) (by decide)))).symm
            have m11688 := m11653.trans (Wr.neR wH11676 (Or.inr (x_apart hKT hts inX10 tyX10 tyX10_ok nmX10 rfl 31 34 (by decide) (by decide) (by decide)))).symm
            have m11689 := m11654.trans (Wr.neR wH11676 (Or.inr (x_apart hKT hts inX10 tyX10 tyX10_ok nmX10 rfl 24 34 (by decide) (by decide) (by decide)))).symm
            have m11690 := m11655.trans (Wr.neR wH11676 (Or.inr (x_apart hKT hts inX10 tyX10 tyX10_ok nmX10 rfl 17 34 (by decide) (by decide) (by decide)))).symm
            have m11691 := m11656.trans (Wr.neR wH11676 (Or.inr (x_apart hKT hts inX10 tyX10 tyX10_ok nmX10 rfl 26 34 (by decide) (by decide) (by decide)))).symm
            have m11692 := m11657.trans (Wr.neR wH11676 (Or.inr (x_apart hKT hts inX10 tyX10 tyX10_ok nmX10 rfl 27 34 (by decide) (by decide) (by decide)))).symm
            have m11693 := m11658.trans (Wr.neR wH11676 (Or.inr (x_apart hKT hts inX10 tyX10 tyX10_ok nmX10 rfl 28 34 (by decide) (by decide) (by decide)))).symm
            have m11694 := m11659.trans (Wr.neR wH11676 (Or.inr (x_apart hKT hts inX10 tyX10 tyX10_ok nmX10 rfl 25 34 (by decide) (by decide) (by decide)))).symm
            have m11695 := m11660.trans (Wr.neI wH11676 (Or.inr (x_apart hKT hts inX10 tyX10 tyX10_ok nmX10 rfl 35 34 (by decide) (by decide) (by decide)))).symm
            have m11696 := m11661.trans (Wr.neI wH11676 (Or.inr (x_apart hKT hts inX10 tyX10 tyX10_ok nmX10 rfl 18 34 (by decide) (by decide) (by decide)))).symm
            have m11697 := (Wr.neI wH11676 (Or.inr (x_apart hKT hts inX10 tyX10 tyX10_ok nmX10 rfl 0 34 (by decide) (by decide) (by decide)))).trans m11662
            have m11698 := (Wr.neI wH11676 (Or.inr (x_apart hKT hts inX10 tyX10 tyX10_ok nmX10 rfl 41 34 (by decide) (by decide) (by decide)))).trans m11663
            have m11699 := (Wr.neI wH11676 (Or.inr (x_apart hKT hts inX10 tyX10 tyX10_ok nmX10 rfl 42 34 (by decide) (by decide) (by decide)))).trans m11664
            have m11700 := Wr.I wH11676
            clear f11647 f11648 g11643 g11644 g11645 g11646 hTH11641 m11649 m11650 m11651 m11652 m11653 m11654 m11655 m11656 m11657 m11658 m11659 m11660 m11661 m11662 m11663 m11664 mf11642
            refine lv_aload_n hx hb dX10_text_64 rfl (lv_at hl11673 1 rfl) ?_
            refine lv_iconst (v := 0) hx hb dX10_text_65 (by decide) ?_
            refine x_put C hTH11676 hSH11676 (ci := 10) (k := 19) (v := .int 0) (ty0 := tyX10) rfl inX10 tyX10_ok nmX10 (by decide) rfl wF_X10_192 ga0 rg_112 rfl rfl (okI (by have := i_rng (0 : Int32); omega) (by have := i_rng (0 : Int32); omega)) rfl rfl (AE_in ga0 (by decide)) dX10_text_66 (fun H11701 locsH11701 hTH11701 hSH11701 wH11701 => ?_)
            have mf11702 : MF K s.heap H11701 a0 [0, 18, 19, 20, 21, 22, 34, 35, 36, 38, 39, 40, 41, 42] := MF.fld hap wH11701 (by decide) (by decide) mf11677
            have g11703 : CG (avw K H11701 a0) := CG.congr (fun k hk j => av_fld hTH11676 ga0 hap wH11701 (by decide) (CG_ok 112 (by decide) k hk) (CG_ne 19 (by decide) k hk)) g11678
            have g11704 : TU (avw K H11701 a0) (svw K H11701 a0) := TU.congr (fun k hk j => av_fld hTH11676 ga0 hap wH11701 (by decide) (TU_ok 112 (by decide) k hk) (TU_ne 19 (by decide) k hk)) (fun k hk => sv_fld hap wH11701 (by decide) (TU_slt k hk) (TU_sne 19 (by decide) k hk)) g11679
            have g11705 : WD (avw K H11701 a0) := WD.congr (fun k hk j => av_fld hTH11676 ga0 hap wH11701 (by decide) (WD_ok 112 (by decide) k hk) (WD_ne 19 (by decide) k hk)) g11680
            have g11706 : IM (avw K H11701 a0) := IM.congr (fun k hk j => av_fld hTH11676 ga0 hap wH11701 (by decide) (IM_ok 112 (by decide) k hk) (IM_ne 19 (by decide) k hk)) g11681
            have f11707 : ∀ j : Nat, bt j = (fI H11701 tq j).toInt := fun j => (f11682 j).trans (congrArg Int32.toInt (Wr.neI wH11701 (Or.inl (G_ne gtq ga0 (by decide)))).symm)
            have f11708 : ∀ j : Nat, fI H11701 mq j = fI s.heap mq j := fun j => (Wr.neI wH11701 (Or.inl (G_ne gmq ga0 (by decide)))).trans (f11683 j)
            have m11709 := m11684.trans (Wr.neR wH11701 (Or.inr (x_apart hKT hts inX10 tyX10 tyX10_ok nmX10 rfl 32 19 (by decide) (by decide) (by decide)))).symm
            have m11710 := m11685.trans (Wr.neR wH11701 (Or.inr (x_apart hKT hts inX10 tyX10 tyX10_ok nmX10 rfl 33 19 (by decide) (by decide) (by decide)))).symm
            have m11711 := m11686.trans (Wr.neR wH11701 (Or.inr (x_apart hKT hts inX10 tyX10 tyX10_ok nmX10 rfl 29 19 (by decide) (by decide) (by decide)))).symm
            have m11712 := m11687.trans (Wr.neR wH11701 (Or.inr (x_apart hKT hts inX10 tyX10 tyX10_ok nmX10 rfl 30 19 (by decide) (by decide) (by decide)))).symm
            have m11713 := m11688.trans (Wr.neR wH11701 (Or.inr (x_apart hKT hts inX10 tyX10 tyX10_ok nmX10 rfl 31 19 (by decide) (by decide) (by decide)))).symm
            have m11714 := m11689.trans (Wr.neR wH11701 (Or.inr (x_apart hKT hts inX10 tyX10 tyX10_ok nmX10 rfl 24 19 (by decide) (by decide) (by decide)))).symm
            have m11715 := m11690.trans (Wr.neR wH11701 (Or.inr (x_apart hKT hts inX10 tyX10 tyX10_ok nmX10 rfl 17 19 (by decide) (by decide) (by decide)))).symm
            have m11716 := m11691.trans (Wr.neR wH11701 (Or.inr (x_apart hKT hts inX10 tyX10 tyX10_ok nmX10 rfl 26 19 (by decide) (by decide) (by decide)))).symm
            have m11717 := m11692.trans (Wr.neR wH11701 (Or.inr (x_apart hKT hts inX10 tyX10 tyX10_ok nmX10 rfl 27 19 (by decide) (by decide) (by decide)))).symm
            have m11718 := m11693.trans (Wr.neR wH11701 (Or.inr (x_apart hKT hts inX10 tyX10 tyX10_ok nmX10 rfl 28 19 (by decide) (by decide) (by decide)))).symm
            have m11719 := m11694.trans (Wr.neR wH11701 (Or.inr (x_apart hKT hts inX10 tyX10 tyX10_ok nmX10 rfl 25 19 (by decide) (by decide) (by decide)))).symm
            have m11720 := m11695.trans (Wr.neI wH11701 (Or.inr (x_apart hKT hts inX10 tyX10 tyX10_ok nmX10 rfl 35 19 (by decide) (by decide) (by decide)))).symm
            have m11721 := m11696.trans (Wr.neI wH11701 (Or.inr (x_apart hKT hts inX10 tyX10 tyX10_ok nmX10 rfl 18 19 (by decide) (by decide) (by decide)))).symm
            have m11722 := (Wr.neI wH11701 (Or.inr (x_apart hKT hts inX10 tyX10 tyX10_ok nmX10 rfl 0 19 (by decide) (by decide) (by decide)))).trans m11697
            have m11723 := (Wr.neI wH11701 (Or.inr (x_apart hKT hts inX10 tyX10 tyX10_ok nmX10 rfl 41 19 (by decide) (by decide) (by decide)))).trans m11698
            have m11724 := (Wr.neI wH11701 (Or.inr (x_apart hKT hts inX10 tyX10 tyX10_ok nmX10 rfl 42 19 (by decide) (by decide) (by decide)))).trans m11699
            have m11725 := (Wr.neI wH11701 (Or.inr (x_apart hKT hts inX10 tyX10 tyX10_ok nmX10 rfl 34 19 (by decide) (by decide) (by decide)))).trans m11700
            have m11726 := Wr.I wH11701
            clear f11682 f11683 g11678 g11679 g11680 g11681 hTH11676 m11684 m11685 m11686 m11687 m11688 m11689 m11690 m11691 m11692 m11693 m11694 m11695 m11696 m11697 m11698 m11699 m11700 mf11677
            refine lv_aload_n hx hb dX10_text_69 rfl (lv_at hl11673 1 rfl) ?_
            refine lv_iconst (v := 0) hx hb dX10_text_70 (by decide) ?_
            refine x_put C hTH11701 hSH11701 (ci := 10) (k := 35) (v := .int 0) (ty0 := tyX10) rfl inX10 tyX10_ok nmX10 (by decide) rfl wF_X10_228 ga0 rg_112 rfl rfl (okI (by have := i_rng (0 : Int32); omega) (by have := i_rng (0 : Int32); omega)) rfl rfl (AE_in ga0 (by decide)) dX10_text_71 (fun H11727 locsH11727 hTH11727 hSH11727 wH11727 => ?_)
            have mf11728 : MF K s.heap H11727 a0 [0, 18, 19, 20, 21, 22, 34, 35, 36, 38, 39, 40, 41, 42] := MF.fld hap wH11727 (by decide) (by decide) mf11702
            have g11729 : CG (avw K H11727 a0) := CG.congr (fun k hk j => av_fld hTH11701 ga0 hap wH11727 (by decide) (CG_ok 112 (by decide) k hk) (CG_ne 35 (by decide) k hk)) g11703
            have g11730 : TU (avw K H11727 a0) (svw K H11727 a0) := TU.congr (fun k hk j => av_fld hTH11701 ga0 hap wH11727 (by decide) (TU_ok 112 (by decide) k hk) (TU_ne 35 (by decide) k hk)) (fun k hk => sv_fld hap wH11727 (by decide) (TU_slt k hk) (TU_sne 35 (by decide) k hk)) g11704
            have g11731 : WD (avw K H11727 a0) := WD.congr (fun k hk j => av_fld hTH11701 ga0 hap wH11727 (by decide) (WD_ok 112 (by decide) k hk) (WD_ne 35 (by decide) k hk)) g11705
            have g11732 : IM (avw K H11727 a0) := IM.congr (fun k hk j => av_fld hTH11701 ga0 hap wH11727 (by decide) (IM_ok 112 (by decide) k hk) (IM_ne 35 (by decide) k hk)) g11706
            have f11733 : ∀ j : Nat, bt j = (fI H11727 tq j).toInt := fun j => (f11707 j).trans (congrArg Int32.toInt (Wr.neI wH11727 (Or.inl (G_ne gtq ga0 (by decide)))).symm)
            have f11734 : ∀ j : Nat, fI H11727 mq j = fI s.heap mq j := fun j => (Wr.neI wH11727 (Or.inl (G_ne gmq ga0 (by decide)))).trans (f11708 j)
            have m11735 := m11709.trans (Wr.neR wH11727 (Or.inr (x_apart hKT hts inX10 tyX10 tyX10_ok nmX10 rfl 32 35 (by decide) (by decide) (by decide)))).symm
            have m11736 := m11710.trans (Wr.neR wH11727 (Or.inr (x_apart hKT hts inX10 tyX10 tyX10_ok nmX10 rfl 33 35 (by decide) (by decide) (by decide)))).symm
            have m11737 := m11711.trans (Wr.neR wH11727 (Or.inr (x_apart hKT hts inX10 tyX10 tyX10_ok nmX10 rfl 29 35 (by decide) (by decide) (by decide)))).symm
            have m11738 := m11712.trans (Wr.neR wH11727 (Or.inr (x_apart hKT hts inX10 tyX10 tyX10_ok nmX10 rfl 30 35 (by decide) (by decide) (by decide)))).symm
            have m11739 := m11713.trans (Wr.neR wH11727 (Or.inr (x_apart hKT hts inX10 tyX10 tyX10_ok nmX10 rfl 31 35 (by decide) (by decide) (by decide)))).symm
            have m11740 := m11714.trans (Wr.neR wH11727 (Or.inr (x_apart hKT hts inX10 tyX10 tyX10_ok nmX10 rfl 24 35 (by decide) (by decide) (by decide)))).symm
            have m11741 := m11715.trans (Wr.neR wH11727 (Or.inr (x_apart hKT hts inX10 tyX10 tyX10_ok nmX10 rfl 17 35 (by decide) (by decide) (by decide)))).symm
            have m11742 := m11716.trans (Wr.neR wH11727 (Or.inr (x_apart hKT hts inX10 tyX10 tyX10_ok nmX10 rfl 26 35 (by decide) (by decide) (by decide)))).symm
            have m11743 := m11717.trans (Wr.neR wH11727 (Or.inr (x_apart hKT hts inX10 tyX10 tyX10_ok nmX10 rfl 27 35 (by decide) (by decide) (by decide)))).symm
            have m11744 := m11718.trans (Wr.neR wH11727 (Or.inr (x_apart hKT hts inX10 tyX10 tyX10_ok nmX10 rfl 28 35 (by decide) (by decide) (by decide)))).symm
            have m11745 := m11719.trans (Wr.neR wH11727 (Or.inr (x_apart hKT hts inX10 tyX10 tyX10_ok nmX10 rfl 25 35 (by decide) (by decide) (by decide)))).symm
            have m11747 := m11721.trans (Wr.neI wH11727 (Or.inr (x_apart hKT hts inX10 tyX10 tyX10_ok nmX10 rfl 18 35 (by decide) (by decide) (by decide)))).symm
            have m11748 := (Wr.neI wH11727 (Or.inr (x_apart hKT hts inX10 tyX10 tyX10_ok nmX10 rfl 0 35 (by decide) (by decide) (by decide)))).trans m11722
            have m11749 := (Wr.neI wH11727 (Or.inr (x_apart hKT hts inX10 tyX10 tyX10_ok nmX10 rfl 41 35 (by decide) (by decide) (by decide)))).trans m11723
            have m11750 := (Wr.neI wH11727 (Or.inr (x_apart hKT hts inX10 tyX10 tyX10_ok nmX10 rfl 42 35 (by decide) (by decide) (by decide)))).trans m11724
            have m11751 := (Wr.neI wH11727 (Or.inr (x_apart hKT hts inX10 tyX10 tyX10_ok nmX10 rfl 34 35 (by decide) (by decide) (by decide)))).trans m11725
            have m11752 := (Wr.neI wH11727 (Or.inr (x_apart hKT hts inX10 tyX10 tyX10_ok nmX10 rfl 19 35 (by decide) (by decide) (by decide)))).trans m11726
            have m11753 := Wr.I wH11727
            clear f11707 f11708 g11703 g11704 g11705 g11706 hTH11701 m11709 m11710 m11711 m11712 m11713 m11714 m11715 m11716 m11717 m11718 m11719 m11720 m11721 m11722 m11723 m11724 m11725 m11726 mf11702
            refine lv_aload_n hx hb dX10_text_74 rfl (lv_at hl11673 1 rfl) ?_
            refine lv_iconst (v := 0) hx hb dX10_text_75 (by decide) ?_
            refine x_put C hTH11727 hSH11727 (ci := 10) (k := 36) (v := .int 0) (ty0 := tyX10) rfl inX10 tyX10_ok nmX10 (by decide) rfl wF_X10_261 ga0 rg_112 rfl rfl (okI (by have := i_rng (0 : Int32); omega) (by have := i_rng (0 : Int32); omega)) rfl rfl (AE_in ga0 (by decide)) dX10_text_76 (fun H11754 locsH11754 hTH11754 hSH11754 wH11754 => ?_)
            have mf11755 : MF K s.heap H11754 a0 [0, 18, 19, 20, 21, 22, 34, 35, 36, 38, 39, 40, 41, 42] := MF.fld hap wH11754 (by decide) (by decide) mf11728
            have g11756 : CG (avw K H11754 a0) := CG.congr (fun k hk j => av_fld hTH11727 ga0 hap wH11754 (by decide) (CG_ok 112 (by decide) k hk) (CG_ne 36 (by decide) k hk)) g11729
            have g11757 : TU (avw K H11754 a0) (svw K H11754 a0) := TU.congr (fun k hk j => av_fld hTH11727 ga0 hap wH11754 (by decide) (TU_ok 112 (by decide) k hk) (TU_ne 36 (by decide) k hk)) (fun k hk => sv_fld hap wH11754 (by decide) (TU_slt k hk) (TU_sne 36 (by decide) k hk)) g11730
            have g11758 : WD (avw K H11754 a0) := WD.congr (fun k hk j => av_fld hTH11727 ga0 hap wH11754 (by decide) (WD_ok 112 (by decide) k hk) (WD_ne 36 (by decide) k hk)) g11731
            have g11759 : IM (avw K H11754 a0) := IM.congr (fun k hk j => av_fld hTH11727 ga0 hap wH11754 (by decide) (IM_ok 112 (by decide) k hk) (IM_ne 36 (by decide) k hk)) g11732
            have f11760 : ∀ j : Nat, bt j = (fI H11754 tq j).toInt := fun j => (f11733 j).trans (congrArg Int32.toInt (Wr.neI wH11754 (Or.inl (G_ne gtq ga0 (by decide)))).symm)
            have f11761 : ∀ j : Nat, fI H11754 mq j = fI s.heap mq j := fun j => (Wr.neI wH11754 (Or.inl (G_ne gmq ga0 (by decide)))).trans (f11734 j)
            have m11762 := m11735.trans (Wr.neR wH11754 (Or.inr (x_apart hKT hts inX10 tyX10 tyX10_ok nmX10 rfl 32 36 (by decide) (by decide) (by decide)))).symm
            have m11763 := m11736.trans (Wr.neR wH11754 (Or.inr (x_apart hKT hts inX10 tyX10 tyX10_ok nmX10 rfl 33 36 (by decide) (by decide) (by decide)))).symm
            have m11764 := m11737.trans (Wr.neR wH11754 (Or.inr (x_apart hKT hts inX10 tyX10 tyX10_ok nmX10 rfl 29 36 (by decide) (by decide) (by decide)))).symm
            have m11765 := m11738.trans (Wr.neR wH11754 (Or.inr (x_apart hKT hts inX10 tyX10 tyX10_ok nmX10 rfl 30 36 (by decide) (by decide) (by decide)))).symm
            have m11766 := m11739.trans (Wr.neR wH11754 (Or.inr (x_apart hKT hts inX10 tyX10 tyX10_ok nmX10 rfl 31 36 (by decide) (by decide) (by decide)))).symm
            have m11767 := m11740.trans (Wr.neR wH11754 (Or.inr (x_apart hKT hts inX10 tyX10 tyX10_ok nmX10 rfl 24 36 (by decide) (by decide) (by decide)))).symm
            have m11768 := m11741.trans (Wr.neR wH11754 (Or.inr (x_apart hKT hts inX10 tyX10 tyX10_ok nmX10 rfl 17 36 (by decide) (by decide) (by decide)))).symm
            have m11769 := m11742.trans (Wr.neR wH11754 (Or.inr (x_apart hKT hts inX10 tyX10 tyX10_ok nmX10 rfl 26 36 (by decide) (by decide) (by decide)))).symm
            have m11770 := m11743.trans (Wr.neR wH11754 (Or.inr (x_apart hKT hts inX10 tyX10 tyX10_ok nmX10 rfl 27 36 (by decide) (by decide) (by decide)))).symm
            have m11771 := m11744.trans (Wr.neR wH11754 (Or.inr (x_apart hKT hts inX10 tyX10 tyX10_ok nmX10 rfl 28 36 (by decide) (by decide) (by decide)))).symm
            have m11772 := m11745.trans (Wr.neR wH11754 (Or.inr (x_apart hKT hts inX10 tyX10 tyX10_ok nmX10 rfl 25 36 (by decide) (by decide) (by decide)))).symm
            have m11773 := m11747.trans (Wr.neI wH11754 (Or.inr (x_apart hKT hts inX10 tyX10 tyX10_ok nmX10 rfl 18 36 (by decide) (by decide) (by decide)))).symm
            have m11774 := (Wr.neI wH11754 (Or.inr (x_apart hKT hts inX10 tyX10 tyX10_ok nmX10 rfl 0 36 (by decide) (by decide) (by decide)))).trans m11748
            have m11775 := (Wr.neI wH11754 (Or.inr (x_apart hKT hts inX10 tyX10 tyX10_ok nmX10 rfl 41 36 (by decide) (by decide) (by decide)))).trans m11749
            have m11776 := (Wr.neI wH11754 (Or.inr (x_apart hKT hts inX10 tyX10 tyX10_ok nmX10 rfl 42 36 (by decide) (by decide) (by decide)))).trans m11750
            have m11777 := (Wr.neI wH11754 (Or.inr (x_apart hKT hts inX10 tyX10 tyX10_ok nmX10 rfl 34 36 (by decide) (by decide) (by decide)))).trans m11751
            have m11778 := (Wr.neI wH11754 (Or.inr (x_apart hKT hts inX10 tyX10 tyX10_ok nmX10 rfl 19 36 (by decide) (by decide) (by decide)))).trans m11752
            have m11779 := (Wr.neI wH11754 (Or.inr (x_apart hKT hts inX10 tyX10 tyX10_ok nmX10 rfl 35 36 (by decide) (by decide) (by decide)))).trans m11753
            have m11780 := Wr.I wH11754
            clear f11733 f11734 g11729 g11730 g11731 g11732 hTH11727 m11735 m11736 m11737 m11738 m11739 m11740 m11741 m11742 m11743 m11744 m11745 m11747 m11748 m11749 m11750 m11751 m11752 m11753 mf11728
            refine lv_aload_n hx hb dX10_text_79 rfl (lv_at hl11673 1 rfl) ?_
            obtain ⟨x11781, ex11781⟩ : ∃ z : Int32, z = fI H11754 a0 (K.1.2 10 20) := ⟨_, rfl⟩
            have bx11781 := ty_fi (x := x11781) (k := 20) ex11781 hTH11754 ga0 rg_112 rfl
            obtain ⟨x11782, ex11782⟩ : ∃ z : Int32, z = fI H11754 a0 (K.1.2 10 21) := ⟨_, rfl⟩
            have bx11782 := ty_fi (x := x11782) (k := 21) ex11782 hTH11754 ga0 rg_112 rfl
            obtain ⟨x11783, ex11783⟩ : ∃ z : Int32, z = fI H11754 a0 (K.1.2 10 22) := ⟨_, rfl⟩
            have bx11783 := ty_fi (x := x11783) (k := 22) ex11783 hTH11754 ga0 rg_112 rfl
            refine x_V (As := []) (rest := []) C (a_X10_reads_e l K G H11754 (0) (x11781) (x11782) (x11783) (tp) bt hTH11754 ga0 gtq m11768 (m11778).symm ex11781 ex11782 ex11783 m11773 g11756 g11757 g11758 g11759 (by omega) (hy1) f11760) yo_X10_reads wM_X10_242 ⟨⟨by decide, by decide⟩, by decide, by decide⟩ (x_rv C hTH11754 (ci := 10) rfl ga0 rg_112) rfl hl11673.1 rfl (Nat.le_of_ble_eq_true rfl) dX10_text_80 hSH11754 (AE_sub (fun _ _ => rfl) (by decide) hSH11754.1) (fun vH11784 H11784 locsH11784 pH11784 zH11784 kH11784 hSH11784 => ?_)
            obtain ⟨x11785, x11786, x11787, x11788, hvH11784, ex11785, ex11786, ex11787, ex11788, hrH11784, m11789, g11790, g11791, g11792, g11793, mf11794, m11795, m11796, m11797, hTH11784⟩ := pH11784
            subst hvH11784
            clear zH11784
            replace m11789 := EQN.mk m11789
            have f11798 : ∀ j : Nat, bt j = (fI H11784 tq j).toInt := fun j => (f11760 j).trans (congrArg Int32.toInt (fI_kept (x_lt hTH11754 kH11784 gtq (by decide))).symm)
            have f11799 : ∀ j : Nat, fI H11784 mq j = fI s.heap mq j := fun j => (fI_kept (x_lt hTH11754 kH11784 gmq (by decide))).trans (f11761 j)
            have m11800 := (m11762).trans (MF.r mf11794 (k := 32) (by decide) (by decide)).symm
            have m11801 := (m11763).trans (MF.r mf11794 (k := 33) (by decide) (by decide)).symm
            have m11802 := (m11764).trans (MF.r mf11794 (k := 29) (by decide) (by decide)).symm
            have m11803 := (m11765).trans (MF.r mf11794 (k := 30) (by decide) (by decide)).symm
            have m11804 := (m11766).trans (MF.r mf11794 (k := 31) (by decide) (by decide)).symm
            have m11805 := (m11767).trans (MF.r mf11794 (k := 24) (by decide) (by decide)).symm
            have m11806 := (m11768).trans (MF.r mf11794 (k := 17) (by decide) (by decide)).symm
            have m11807 := (m11769).trans (MF.r mf11794 (k := 26) (by decide) (by decide)).symm
            have m11808 := (m11770).trans (MF.r mf11794 (k := 27) (by decide) (by decide)).symm
            have m11809 := (m11771).trans (MF.r mf11794 (k := 28) (by decide) (by decide)).symm
            have m11810 := (m11772).trans (MF.r mf11794 (k := 25) (by decide) (by decide)).symm
            have m11811 := (m11773).trans (MF.i mf11794 (k := 18) (by decide) (by decide)).symm
            have m11812 := (MF.i mf11794 (k := 0) (by decide) (by decide)).trans m11774
            have m11813 := (MF.i mf11794 (k := 41) (by decide) (by decide)).trans m11775
            have m11814 := (MF.i mf11794 (k := 42) (by decide) (by decide)).trans m11776
            have m11815 := (MF.i mf11794 (k := 34) (by decide) (by decide)).trans m11777
            have m11816 := (MF.i mf11794 (k := 35) (by decide) (by decide)).trans m11779
            have m11817 := (MF.i mf11794 (k := 36) (by decide) (by decide)).trans m11780
            have mf11818 : MF K s.heap H11784 a0 [0, 18, 19, 20, 21, 22, 34, 35, 36, 38, 39, 40, 41, 42] := MF.trans mf11755 mf11794 (by decide)
            have bx11785 := ty_fi (x := x11785) (k := 19) ex11785 hTH11784 ga0 rg_112 rfl
            have bx11786 := ty_fi (x := x11786) (k := 20) ex11786 hTH11784 ga0 rg_112 rfl
            have bx11787 := ty_fi (x := x11787) (k := 21) ex11787 hTH11784 ga0 rg_112 rfl
            have bx11788 := ty_fi (x := x11788) (k := 22) ex11788 hTH11784 ga0 rg_112 rfl
            have cu11819 : CU bt tp.toNatClampNeg 0 x11786 x11785 x11787 x11788 := ⟨m11795, m11796, m11797, Nat.zero_le _⟩
            obtain ⟨r1H11784, r2H11784, r3H11784, r4H11784, r5H11784⟩ := hrH11784
            have frd9 : FRD H11784 s.heap lsq l1 l2 l3 f9 f0 f1 oq aq := FRD.kept (FRD.kept (FRD.kept (FRD.kept (FRD.kept (FRD.kept (FRD.kept (FRD.kept FRD.rf (fun l => Wr.neI wH11596 (Or.inl (G_ne glsq ga0 (by decide)))) (fun l => Wr.neI wH11596 (Or.inl (G_ne gl1 ga0 (by decide)))) (fun l => Wr.neI wH11596 (Or.inl (G_ne gl2 ga0 (by decide)))) (fun l => Wr.neI wH11596 (Or.inl (G_ne gl3 ga0 (by decide)))) (fun l => Wr.neI wH11596 (Or.inl (G_ne gf9 ga0 (by decide)))) (fun l => Wr.neI wH11596 (Or.inl (G_ne gf0 ga0 (by decide)))) (fun l => Wr.neI wH11596 (Or.inl (G_ne gf1 ga0 (by decide)))) (fun l => Wr.neI wH11596 (Or.inl (G_ne goq ga0 (by decide)))) (fun l => Wr.neI wH11596 (Or.inl (G_ne gaq ga0 (by decide))))) (fun l => Wr.neI wH11618 (Or.inl (G_ne glsq ga0 (by decide)))) (fun l => Wr.neI wH11618 (Or.inl (G_ne gl1 ga0 (by decide)))) (fun l => Wr.neI wH11618 (Or.inl (G_ne gl2 ga0 (by decide)))) (fun l => Wr.neI wH11618 (Or.inl (G_ne gl3 ga0 (by decide)))) (fun l => Wr.neI wH11618 (Or.inl (G_ne gf9 ga0 (by decide)))) (fun l => Wr.neI wH11618 (Or.inl (G_ne gf0 ga0 (by decide)))) (fun l => Wr.neI wH11618 (Or.inl (G_ne gf1 ga0 (by decide)))) (fun l => Wr.neI wH11618 (Or.inl (G_ne goq ga0 (by decide)))) (fun l => Wr.neI wH11618 (Or.inl (G_ne gaq ga0 (by decide))))) (fun l => Wr.neI wH11641 (Or.inl (G_ne glsq ga0 (by decide)))) (fun l => Wr.neI wH11641 (Or.inl (G_ne gl1 ga0 (by decide)))) (fun l => Wr.neI wH11641 (Or.inl (G_ne gl2 ga0 (by decide)))) (fun l => Wr.neI wH11641 (Or.inl (G_ne gl3 ga0 (by decide)))) (fun l => Wr.neI wH11641 (Or.inl (G_ne gf9 ga0 (by decide)))) (fun l => Wr.neI wH11641 (Or.inl (G_ne gf0 ga0 (by decide)))) (fun l => Wr.neI wH11641 (Or.inl (G_ne gf1 ga0 (by decide)))) (fun l => Wr.neI wH11641 (Or.inl (G_ne goq ga0 (by decide)))) (fun l => Wr.neI wH11641 (Or.inl (G_ne gaq ga0 (by decide))))) (fun l => Wr.neI wH11676 (Or.inl (G_ne glsq ga0 (by decide)))) (fun l => Wr.neI wH11676 (Or.inl (G_ne gl1 ga0 (by decide)))) (fun l => Wr.neI wH11676 (Or.inl (G_ne gl2 ga0 (by decide)))) (fun l => Wr.neI wH11676 (Or.inl (G_ne gl3 ga0 (by decide)))) (fun l => Wr.neI wH11676 (Or.inl (G_ne gf9 ga0 (by decide)))) (fun l => Wr.neI wH11676 (Or.inl (G_ne gf0 ga0 (by decide)))) (fun l => Wr.neI wH11676 (Or.inl (G_ne gf1 ga0 (by decide)))) (fun l => Wr.neI wH11676 (Or.inl (G_ne goq ga0 (by decide)))) (fun l => Wr.neI wH11676 (Or.inl (G_ne gaq ga0 (by decide))))) (fun l => Wr.neI wH11701 (Or.inl (G_ne glsq ga0 (by decide)))) (fun l => Wr.neI wH11701 (Or.inl (G_ne gl1 ga0 (by decide)))) (fun l => Wr.neI wH11701 (Or.inl (G_ne gl2 ga0 (by decide)))) (fun l => Wr.neI wH11701 (Or.inl (G_ne gl3 ga0 (by decide)))) (fun l => Wr.neI wH11701 (Or.inl (G_ne gf9 ga0 (by decide)))) (fun l => Wr.neI wH11701 (Or.inl (G_ne gf0 ga0 (by decide)))) (fun l => Wr.neI wH11701 (Or.inl (G_ne gf1 ga0 (by decide)))) (fun l => Wr.neI wH11701 (Or.inl (G_ne goq ga0 (by decide)))) (fun l => Wr.neI wH11701 (Or.inl (G_ne gaq ga0 (by decide))))) (fun l => Wr.neI wH11727 (Or.inl (G_ne glsq ga0 (by decide)))) (fun l => Wr.neI wH11727 (Or.inl (G_ne gl1 ga0 (by decide)))) (fun l => Wr.neI wH11727 (Or.inl (G_ne gl2 ga0 (by decide)))) (fun l => Wr.neI wH11727 (Or.inl (G_ne gl3 ga0 (by decide)))) (fun l => Wr.neI wH11727 (Or.inl (G_ne gf9 ga0 (by decide)))) (fun l => Wr.neI wH11727 (Or.inl (G_ne gf0 ga0 (by decide)))) (fun l => Wr.neI wH11727 (Or.inl (G_ne gf1 ga0 (by decide)))) (fun l => Wr.neI wH11727 (Or.inl (G_ne goq ga0 (by decide)))) (fun l => Wr.neI wH11727 (Or.inl (G_ne gaq ga0 (by decide))))) (fun l => Wr.neI wH11754 (Or.inl (G_ne glsq ga0 (by decide)))) (fun l => Wr.neI wH11754 (Or.inl (G_ne gl1 ga0 (by decide)))) (fun l => Wr.neI wH11754 (Or.inl (G_ne gl2 ga0 (by decide)))) (fun l => Wr.neI wH11754 (Or.inl (G_ne gl3 ga0 (by decide)))) (fun l => Wr.neI wH11754 (Or.inl (G_ne gf9 ga0 (by decide)))) (fun l => Wr.neI wH11754 (Or.inl (G_ne gf0 ga0 (by decide)))) (fun l => Wr.neI wH11754 (Or.inl (G_ne gf1 ga0 (by decide)))) (fun l => Wr.neI wH11754 (Or.inl (G_ne goq ga0 (by decide)))) (fun l => Wr.neI wH11754 (Or.inl (G_ne gaq ga0 (by decide))))) (fun l => fI_kept (x_lt hTH11754 kH11784 glsq (by decide))) (fun l => fI_kept (x_lt hTH11754 kH11784 gl1 (by decide))) (fun l => fI_kept (x_lt hTH11754 kH11784 gl2 (by decide))) (fun l => fI_kept (x_lt hTH11754 kH11784 gl3 (by decide))) (fun l => fI_kept (x_lt hTH11754 kH11784 gf9 (by decide))) (fun l => fI_kept (x_lt hTH11754 kH11784 gf0 (by decide))) (fun l => fI_kept (x_lt hTH11754 kH11784 gf1 (by decide))) (fun l => fI_kept (x_lt hTH11754 kH11784 goq (by decide))) (fun l => fI_kept (x_lt hTH11754 kH11784 gaq (by decide)))
            refine W.eq (g2 := F0 m 83 ls11672 []) rfl ?_
            refine lv_iload_n hx hb dX10_text_83 rfl (lv_at hl11673 0 rfl) ?_
            refine lv_if_eq (tgt := 94) hx hb dX10_text_84 (by decide) (fun c11820 => ?_) (fun c11820 => ?_)
            · have k11821 := i_eq c11820
              exfalso
              omega
            · have k11821 := i_ne c11820
              refine lv_aload_n hx hb dX10_text_87 rfl (lv_at hl11673 1 rfl) ?_
              refine x_V (As := []) (rest := []) C (a_X10_readText_g l K G H11784 (x11785) (x11786) (x11787) (x11788) (0) (0) (tp) (1) (0) bt hTH11784 ga0 goq m11800 gaq m11801 gf9 m11802 gf0 m11803 gf1 m11804 gtq m11789 gl1 m11807 gl2 m11808 gl3 m11809 glsq m11810 ex11785 ex11786 ex11787 ex11788 (m11816).symm (m11817).symm m11811 (m11815).symm g11790 g11791 g11792 g11793 (by omega) (by omega) (by omega) (by omega) (cu11819) (hy1) f11798) yo_X10_readText wM_X10_295 ⟨⟨by decide, by decide⟩, by decide, by decide⟩ (x_rv C hTH11784 (ci := 10) rfl ga0 rg_112) rfl hl11673.1 rfl (Nat.le_of_ble_eq_true rfl) dX10_text_88 hSH11784 (AE_sub (fun _ _ => rfl) (by decide) hSH11784.1) (fun vH11822 H11822 locsH11822 pH11822 zH11822 kH11822 hSH11822 => ?_)
              obtain ⟨x11823, x11824, x11825, x11826, x11827, x11828, x11829, hvH11822, bx11823, ex11824, ex11825, ex11826, ex11827, ex11828, ex11829, hrH11822, m11830, m11831, m11832, m11833, m11834, m11835, m11836, m11837, m11838, m11839, g11840, g11841, g11842, g11843, mf11844, m11845, m11846, m11847, m11848, hTH11822⟩ := pH11822
              subst hvH11822
              clear zH11822
              replace m11830 := EQN.mk m11830
              replace m11831 := EQN.mk m11831
              replace m11832 := EQN.mk m11832
              replace m11833 := EQN.mk m11833
              replace m11834 := EQN.mk m11834
              replace m11835 := EQN.mk m11835
              replace m11836 := EQN.mk m11836
              replace m11837 := EQN.mk m11837
              replace m11838 := EQN.mk m11838
              replace m11839 := EQN.mk m11839
              have f11849 : ∀ j : Nat, bt j = (fI H11822 tq j).toInt := fun j => (f11798 j).trans (congrArg Int32.toInt (fI_kept (x_lt hTH11784 kH11822 gtq (by decide))).symm)
              have f11850 : ∀ j : Nat, fI H11822 mq j = fI s.heap mq j := fun j => (fI_kept (x_lt hTH11784 kH11822 gmq (by decide))).trans (f11799 j)
              have m11851 := (m11800).trans (MF.r mf11844 (k := 32) (by decide) (by decide)).symm
              have m11852 := (m11801).trans (MF.r mf11844 (k := 33) (by decide) (by decide)).symm
              have m11853 := (m11802).trans (MF.r mf11844 (k := 29) (by decide) (by decide)).symm
              have m11854 := (m11803).trans (MF.r mf11844 (k := 30) (by decide) (by decide)).symm
              have m11855 := (m11804).trans (MF.r mf11844 (k := 31) (by decide) (by decide)).symm
              have m11856 := (m11805).trans (MF.r mf11844 (k := 24) (by decide) (by decide)).symm
              have m11857 := (m11789).trans (MF.r mf11844 (k := 17) (by decide) (by decide)).symm
              have m11858 := (m11807).trans (MF.r mf11844 (k := 26) (by decide) (by decide)).symm
              have m11859 := (m11808).trans (MF.r mf11844 (k := 27) (by decide) (by decide)).symm
              have m11860 := (m11809).trans (MF.r mf11844 (k := 28) (by decide) (by decide)).symm
              have m11861 := (m11810).trans (MF.r mf11844 (k := 25) (by decide) (by decide)).symm
              have m11862 := (m11811).trans (MF.i mf11844 (k := 18) (by decide) (by decide)).symm
              have m11863 := (MF.i mf11844 (k := 0) (by decide) (by decide)).trans m11812
              have m11864 := (MF.i mf11844 (k := 41) (by decide) (by decide)).trans m11813
              have m11865 := (MF.i mf11844 (k := 42) (by decide) (by decide)).trans m11814
              have m11866 := (MF.i mf11844 (k := 34) (by decide) (by decide)).trans m11815
              have mf11867 : MF K s.heap H11822 a0 [0, 18, 19, 20, 21, 22, 34, 35, 36, 38, 39, 40, 41, 42] := MF.trans mf11818 mf11844 (by decide)
              have bx11824 := ty_fi (x := x11824) (k := 19) ex11824 hTH11822 ga0 rg_112 rfl
              have bx11825 := ty_fi (x := x11825) (k := 20) ex11825 hTH11822 ga0 rg_112 rfl
              have bx11826 := ty_fi (x := x11826) (k := 21) ex11826 hTH11822 ga0 rg_112 rfl
              have bx11827 := ty_fi (x := x11827) (k := 22) ex11827 hTH11822 ga0 rg_112 rfl
              have bx11828 := ty_fi (x := x11828) (k := 35) ex11828 hTH11822 ga0 rg_112 rfl
              have bx11829 := ty_fi (x := x11829) (k := 36) ex11829 hTH11822 ga0 rg_112 rfl
              refine W.eq (g2 := F0 m 91 ls11672 [.int x11823]) rfl ?_
              refine lv_goto (tgt := 95) hx hb dX10_text_91 (by decide) ?_
              refine lv_istore (lv' := [(4, .int x11823), (3, .int 1), (0, .ref a0), (1, .int x1), (2, .int x2)]) hx hb dX10_text_95 hl11673 (by decide) rfl (fun ls11868 hl11869 => ?_)
              refine lv_aload_n hx hb dX10_text_97 rfl (lv_at hl11869 2 rfl) ?_
              refine lv_iconst (v := 0) hx hb dX10_text_98 (by decide) ?_
              refine x_put C hTH11822 hSH11822 (ci := 10) (k := 18) (v := .int 0) (ty0 := tyX10) rfl inX10 tyX10_ok nmX10 (by decide) rfl wF_X10_185 ga0 rg_112 rfl rfl (okI (by have := i_rng (0 : Int32); omega) (by have := i_rng (0 : Int32); omega)) rfl rfl (AE_in ga0 (by decide)) dX10_text_99 (fun H11870 locsH11870 hTH11870 hSH11870 wH11870 => ?_)
              have mf11871 : MF K s.heap H11870 a0 [0, 18, 19, 20, 21, 22, 34, 35, 36, 38, 39, 40, 41, 42] := MF.fld hap wH11870 (by decide) (by decide) mf11867
              have g11872 : CG (avw K H11870 a0) := CG.congr (fun k hk j => av_fld hTH11822 ga0 hap wH11870 (by decide) (CG_ok 112 (by decide) k hk) (CG_ne 18 (by decide) k hk)) g11840
              have g11873 : TU (avw K H11870 a0) (svw K H11870 a0) := TU.congr (fun k hk j => av_fld hTH11822 ga0 hap wH11870 (by decide) (TU_ok 112 (by decide) k hk) (TU_ne 18 (by decide) k hk)) (fun k hk => sv_fld hap wH11870 (by decide) (TU_slt k hk) (TU_sne 18 (by decide) k hk)) g11841
              have g11874 : WD (avw K H11870 a0) := WD.congr (fun k hk j => av_fld hTH11822 ga0 hap wH11870 (by decide) (WD_ok 112 (by decide) k hk) (WD_ne 18 (by decide) k hk)) g11842
              have g11875 : IM (avw K H11870 a0) := IM.congr (fun k hk j => av_fld hTH11822 ga0 hap wH11870 (by decide) (IM_ok 112 (by decide) k hk) (IM_ne 18 (by decide) k hk)) g11843
              have f11876 : ∀ j : Nat, bt j = (fI H11870 tq j).toInt := fun j => (f11849 j).trans (congrArg Int32.toInt (Wr.neI wH11870 (Or.inl (G_ne gtq ga0 (by decide)))).symm)
              have f11877 : ∀ j : Nat, fI H11870 mq j = fI s.heap mq j := fun j => (Wr.neI wH11870 (Or.inl (G_ne gmq ga0 (by decide)))).trans (f11850 j)
              have m11878 := m11830.trans (Wr.neR wH11870 (Or.inr (x_apart hKT hts inX10 tyX10 tyX10_ok nmX10 rfl 32 18 (by decide) (by decide) (by decide)))).symm
              have m11879 := m11831.trans (Wr.neR wH11870 (Or.inr (x_apart hKT hts inX10 tyX10 tyX10_ok nmX10 rfl 33 18 (by decide) (by decide) (by decide)))).symm
              have m11880 := m11832.trans (Wr.neR wH11870 (Or.inr (x_apart hKT hts inX10 tyX10 tyX10_ok nmX10 rfl 29 18 (by decide) (by decide) (by decide)))).symm
              have m11881 := m11833.trans (Wr.neR wH11870 (Or.inr (x_apart hKT hts inX10 tyX10 tyX10_ok nmX10 rfl 30 18 (by decide) (by decide) (by decide)))).symm
              have m11882 := m11834.trans (Wr.neR wH11870 (Or.inr (x_apart hKT hts inX10 tyX10 tyX10_ok nmX10 rfl 31 18 (by decide) (by decide) (by decide)))).symm
              have m11883 := m11856.trans (Wr.neR wH11870 (Or.inr (x_apart hKT hts inX10 tyX10 tyX10_ok nmX10 rfl 24 18 (by decide) (by decide) (by decide)))).symm
              have m11884 := m11835.trans (Wr.neR wH11870 (Or.inr (x_apart hKT hts inX10 tyX10 tyX10_ok nmX10 rfl 17 18 (by decide) (by decide) (by decide)))).symm
              have m11885 := m11836.trans (Wr.neR wH11870 (Or.inr (x_apart hKT hts inX10 tyX10 tyX10_ok nmX10 rfl 26 18 (by decide) (by decide) (by decide)))).symm
              have m11886 := m11837.trans (Wr.neR wH11870 (Or.inr (x_apart hKT hts inX10 tyX10 tyX10_ok nmX10 rfl 27 18 (by decide) (by decide) (by decide)))).symm
              have m11887 := m11838.trans (Wr.neR wH11870 (Or.inr (x_apart hKT hts inX10 tyX10 tyX10_ok nmX10 rfl 28 18 (by decide) (by decide) (by decide)))).symm
              have m11888 := m11839.trans (Wr.neR wH11870 (Or.inr (x_apart hKT hts inX10 tyX10 tyX10_ok nmX10 rfl 25 18 (by decide) (by decide) (by decide)))).symm
              have m11890 := (Wr.neI wH11870 (Or.inr (x_apart hKT hts inX10 tyX10 tyX10_ok nmX10 rfl 0 18 (by decide) (by decide) (by decide)))).trans m11863
              have m11891 := (Wr.neI wH11870 (Or.inr (x_apart hKT hts inX10 tyX10 tyX10_ok nmX10 rfl 41 18 (by decide) (by decide) (by decide)))).trans m11864
              have m11892 := (Wr.neI wH11870 (Or.inr (x_apart hKT hts inX10 tyX10 tyX10_ok nmX10 rfl 42 18 (by decide) (by decide) (by decide)))).trans m11865
              have m11893 := (Wr.neI wH11870 (Or.inr (x_apart hKT hts inX10 tyX10 tyX10_ok nmX10 rfl 34 18 (by decide) (by decide) (by decide)))).trans m11866
              have m11894 := ex11824.trans (Wr.neI wH11870 (Or.inr (x_apart hKT hts inX10 tyX10 tyX10_ok nmX10 rfl 19 18 (by decide) (by decide) (by decide)))).symm
              have m11895 := ex11825.trans (Wr.neI wH11870 (Or.inr (x_apart hKT hts inX10 tyX10 tyX10_ok nmX10 rfl 20 18 (by decide) (by decide) (by decide)))).symm
              have m11896 := ex11826.trans (Wr.neI wH11870 (Or.inr (x_apart hKT hts inX10 tyX10 tyX10_ok nmX10 rfl 21 18 (by decide) (by decide) (by decide)))).symm
              have m11897 := ex11827.trans (Wr.neI wH11870 (Or.inr (x_apart hKT hts inX10 tyX10 tyX10_ok nmX10 rfl 22 18 (by decide) (by decide) (by decide)))).symm
              have m11898 := ex11828.trans (Wr.neI wH11870 (Or.inr (x_apart hKT hts inX10 tyX10 tyX10_ok nmX10 rfl 35 18 (by decide) (by decide) (by decide)))).symm
              have m11899 := ex11829.trans (Wr.neI wH11870 (Or.inr (x_apart hKT hts inX10 tyX10 tyX10_ok nmX10 rfl 36 18 (by decide) (by decide) (by decide)))).symm
              have m11900 := Wr.I wH11870
              clear ex11824 ex11825 ex11826 ex11827 ex11828 ex11829 f11849 f11850 g11840 g11841 g11842 g11843 hTH11822 m11830 m11831 m11832 m11833 m11834 m11835 m11836 m11837 m11838 m11839 m11856 m11862 m11863 m11864 m11865 m11866 mf11867
              refine lv_iload_n hx hb dX10_text_102 rfl (lv_at hl11869 1 rfl) ?_
              refine lv_if_eq (tgt := 128) hx hb dX10_text_103 (by decide) (fun c11901 => ?_) (fun c11901 => ?_)
              · have k11902 := i_eq c11901
                exfalso
                omega
              · have k11902 := i_ne c11901
                refine lv_iload hx hb dX10_text_106 (lv_at hl11869 0 rfl) ?_
                refine lv_iconst (v := (-1)) hx hb dX10_text_108 (by decide) ?_
                refine lv_icmp_ne (tgt := 128) hx hb dX10_text_109 (by decide) (fun c11903 => ?_) (fun c11903 => ?_)
                · have k11904 := i_ne c11903
                  refine lv_iload hx hb dX10_text_128 (lv_at hl11869 0 rfl) ?_
                  refine lv_iconst (v := (-1)) hx hb dX10_text_130 (by decide) ?_
                  refine lv_icmp_ne (tgt := 136) hx hb dX10_text_131 (by decide) (fun c11905 => ?_) (fun c11905 => ?_)
                  · have k11906 := i_ne c11905
                    refine lv_iload_n hx hb dX10_text_136 rfl (lv_at hl11869 3 rfl) ?_
                    refine lv_if_ne (tgt := 144) hx hb dX10_text_137 (by decide) (fun c11907 => ?_) (fun c11907 => ?_)
                    · have k11908 := i_ne c11907
                      refine lv_iconst (v := 2) hx hb dX10_text_144 (by decide) ?_
                      refine lv_iload_n hx hb dX10_text_145 rfl (lv_at hl11869 4 rfl) ?_
                      refine lv_iadd hx hb dX10_text_146 ?_
                      refine lv_topi (fun x11909 ex11909 => ?_)
                      have tx11909 := i_add ex11909 (by omega)
                      refine lv_istore (lv' := [(5, .int x11909), (4, .int x11823), (3, .int 1), (0, .ref a0), (1, .int x1), (2, .int x2)]) hx hb dX10_text_147 hl11869 (by decide) rfl (fun ls11910 hl11911 => ?_)
                      have hDL := m11845.resolve_left (by omega)
                      replace hDL := DL.congr (fun j => Wr.neI wH11870 (Or.inl (G_ne gf9 ga0 (by decide)))) (fun j => Wr.neI wH11870 (Or.inl (G_ne gf0 ga0 (by decide)))) (fun j => Wr.neI wH11870 (Or.inl (G_ne gf1 ga0 (by decide)))) (fun j => Wr.neI wH11870 (Or.inl (G_ne goq ga0 (by decide)))) (fun j => Wr.neI wH11870 (Or.inl (G_ne gaq ga0 (by decide)))) hDL
                      have cn_x11823 := i_cl (x := x11823) (by omega)
                      have cn_x11828 := i_cl (x := x11828) bx11828.1
                      obtain ⟨ti_, htr_⟩ := m11847.resolve_left (by omega)
                      exact J149  ls11910 H11870 locsH11870 (x11823) (x11909) (x11828) (0) (lv_sub hl11911 [3, 1, 0] rfl) hTH11870 hSH11870 ⟨by have := i_rng x11823; omega, by have := i_rng x11823; omega⟩ ⟨by have := i_rng x11909; omega, by have := i_rng x11909; omega⟩ bx11828 (by decide) m11898 (m11900).symm m11878 m11879 m11880 m11881 m11882 m11883 m11884 m11885 m11886 m11887 m11888 mf11871 g11872 g11873 g11874 g11875 f11876 f11877 (by omega) (DL.cast hDL (by omega) (by omega)) (HD.mk (TXA.mk (by omega) (by rw [if_neg (by omega)]; rfl) m11846)) (HD.mk ⟨ti_, TXRW.lwc (TXRW.kept htr_ (fun l => Wr.neI wH11870 (Or.inl (G_ne glsq ga0 (by decide)))) (fun l => Wr.neI wH11870 (Or.inl (G_ne gl1 ga0 (by decide)))) (fun l => Wr.neI wH11870 (Or.inl (G_ne gl2 ga0 (by decide)))) (fun l => Wr.neI wH11870 (Or.inl (G_ne gl3 ga0 (by decide)))) (fun l => Wr.neI wH11870 (Or.inl (G_ne gf9 ga0 (by decide)))) (fun l => Wr.neI wH11870 (Or.inl (G_ne gf0 ga0 (by decide)))) (fun l => Wr.neI wH11870 (Or.inl (G_ne gf1 ga0 (by decide)))) (fun l => Wr.neI wH11870 (Or.inl (G_ne goq ga0 (by decide)))) (fun l => Wr.neI wH11870 (Or.inl (G_ne gaq ga0 (by decide))))) (by omega)⟩) (HD.mk (FRD.kept (FRD.trans m11848 frd9) (fun l => Wr.neI wH11870 (Or.inl (G_ne glsq ga0 (by decide)))) (fun l => Wr.neI wH11870 (Or.inl (G_ne gl1 ga0 (by decide)))) (fun l => Wr.neI wH11870 (Or.inl (G_ne gl2 ga0 (by decide)))) (fun l => Wr.neI wH11870 (Or.inl (G_ne gl3 ga0 (by decide)))) (fun l => Wr.neI wH11870 (Or.inl (G_ne gf9 ga0 (by decide)))) (fun l => Wr.neI wH11870 (Or.inl (G_ne gf0 ga0 (by decide)))) (fun l => Wr.neI wH11870 (Or.inl (G_ne gf1 ga0 (by decide)))) (fun l => Wr.neI wH11870 (Or.inl (G_ne goq ga0 (by decide)))) (fun l => Wr.neI wH11870 (Or.inl (G_ne gaq ga0 (by decide))))))
                    · have k11908 := i_eq c11907
                      exfalso
                      omega
                  · have k11906 := i_eq c11905
                    exfalso
                    omega
                · have k11904 := i_eq c11903
                  refine lv_aload_n hx hb dX10_text_112 rfl (lv_at hl11869 2 rfl) ?_
                  refine lv_aload_n hx hb dX10_text_113 rfl (lv_at hl11869 2 rfl) ?_
                  refine x_gi C hTH11870 (ci := 10) (k := 39) rfl inX10 (by decide) wF_X10_222 ga0 rg_112 rfl dX10_text_114 (fun x11912 ex11912 bx11912 => ?_)
                  refine x_put C hTH11870 hSH11870 (ci := 10) (k := 41) (v := .int x11912) (ty0 := tyX10) rfl inX10 tyX10_ok nmX10 (by decide) rfl wF_X10_292 ga0 rg_112 rfl rfl (okI bx11912.1 bx11912.2) rfl rfl (AE_in ga0 (by decide)) dX10_text_117 (fun H11913 locsH11913 hTH11913 hSH11913 wH11913 => ?_)
                  have mf11914 : MF K s.heap H11913 a0 [0, 18, 19, 20, 21, 22, 34, 35, 36, 38, 39, 40, 41, 42] := MF.fld hap wH11913 (by decide) (by decide) mf11871
                  have g11915 : CG (avw K H11913 a0) := CG.congr (fun k hk j => av_fld hTH11870 ga0 hap wH11913 (by decide) (CG_ok 112 (by decide) k hk) (CG_ne 41 (by decide) k hk)) g11872
                  have g11916 : TU (avw K H11913 a0) (svw K H11913 a0) := TU.congr (fun k hk j => av_fld hTH11870 ga0 hap wH11913 (by decide) (TU_ok 112 (by decide) k hk) (TU_ne 41 (by decide) k hk)) (fun k hk => sv_fld hap wH11913 (by decide) (TU_slt k hk) (TU_sne 41 (by decide) k hk)) g11873
                  have g11917 : WD (avw K H11913 a0) := WD.congr (fun k hk j => av_fld hTH11870 ga0 hap wH11913 (by decide) (WD_ok 112 (by decide) k hk) (WD_ne 41 (by decide) k hk)) g11874
                  have g11918 : IM (avw K H11913 a0) := IM.congr (fun k hk j => av_fld hTH11870 ga0 hap wH11913 (by decide) (IM_ok 112 (by decide) k hk) (IM_ne 41 (by decide) k hk)) g11875
                  have f11919 : ∀ j : Nat, bt j = (fI H11913 tq j).toInt := fun j => (f11876 j).trans (congrArg Int32.toInt (Wr.neI wH11913 (Or.inl (G_ne gtq ga0 (by decide)))).symm)
                  have f11920 : ∀ j : Nat, fI H11913 mq j = fI s.heap mq j := fun j => (Wr.neI wH11913 (Or.inl (G_ne gmq ga0 (by decide)))).trans (f11877 j)
                  have m11921 := m11878.trans (Wr.neR wH11913 (Or.inr (x_apart hKT hts inX10 tyX10 tyX10_ok nmX10 rfl 32 41 (by decide) (by decide) (by decide)))).symm
                  have m11922 := m11879.trans (Wr.neR wH11913 (Or.inr (x_apart hKT hts inX10 tyX10 tyX10_ok nmX10 rfl 33 41 (by decide) (by decide) (by decide)))).symm
                  have m11923 := m11880.trans (Wr.neR wH11913 (Or.inr (x_apart hKT hts inX10 tyX10 tyX10_ok nmX10 rfl 29 41 (by decide) (by decide) (by decide)))).symm
                  have m11924 := m11881.trans (Wr.neR wH11913 (Or.inr (x_apart hKT hts inX10 tyX10 tyX10_ok nmX10 rfl 30 41 (by decide) (by decide) (by decide)))).symm
                  have m11925 := m11882.trans (Wr.neR wH11913 (Or.inr (x_apart hKT hts inX10 tyX10 tyX10_ok nmX10 rfl 31 41 (by decide) (by decide) (by decide)))).symm
                  have m11926 := m11883.trans (Wr.neR wH11913 (Or.inr (x_apart hKT hts inX10 tyX10 tyX10_ok nmX10 rfl 24 41 (by decide) (by decide) (by decide)))).symm
                  have m11927 := m11884.trans (Wr.neR wH11913 (Or.inr (x_apart hKT hts inX10 tyX10 tyX10_ok nmX10 rfl 17 41 (by decide) (by decide) (by decide)))).symm
                  have m11928 := m11885.trans (Wr.neR wH11913 (Or.inr (x_apart hKT hts inX10 tyX10 tyX10_ok nmX10 rfl 26 41 (by decide) (by decide) (by decide)))).symm
                  have m11929 := m11886.trans (Wr.neR wH11913 (Or.inr (x_apart hKT hts inX10 tyX10 tyX10_ok nmX10 rfl 27 41 (by decide) (by decide) (by decide)))).symm
                  have m11930 := m11887.trans (Wr.neR wH11913 (Or.inr (x_apart hKT hts inX10 tyX10 tyX10_ok nmX10 rfl 28 41 (by decide) (by decide) (by decide)))).symm
                  have m11931 := m11888.trans (Wr.neR wH11913 (Or.inr (x_apart hKT hts inX10 tyX10 tyX10_ok nmX10 rfl 25 41 (by decide) (by decide) (by decide)))).symm
                  have m11932 := (Wr.neI wH11913 (Or.inr (x_apart hKT hts inX10 tyX10 tyX10_ok nmX10 rfl 0 41 (by decide) (by decide) (by decide)))).trans m11890
                  have m11934 := (Wr.neI wH11913 (Or.inr (x_apart hKT hts inX10 tyX10 tyX10_ok nmX10 rfl 42 41 (by decide) (by decide) (by decide)))).trans m11892
                  have m11935 := (Wr.neI wH11913 (Or.inr (x_apart hKT hts inX10 tyX10 tyX10_ok nmX10 rfl 34 41 (by decide) (by decide) (by decide)))).trans m11893
                  have m11936 := m11894.trans (Wr.neI wH11913 (Or.inr (x_apart hKT hts inX10 tyX10 tyX10_ok nmX10 rfl 19 41 (by decide) (by decide) (by decide)))).symm
                  have m11937 := m11895.trans (Wr.neI wH11913 (Or.inr (x_apart hKT hts inX10 tyX10 tyX10_ok nmX10 rfl 20 41 (by decide) (by decide) (by decide)))).symm
                  have m11938 := m11896.trans (Wr.neI wH11913 (Or.inr (x_apart hKT hts inX10 tyX10 tyX10_ok nmX10 rfl 21 41 (by decide) (by decide) (by decide)))).symm
                  have m11939 := m11897.trans (Wr.neI wH11913 (Or.inr (x_apart hKT hts inX10 tyX10 tyX10_ok nmX10 rfl 22 41 (by decide) (by decide) (by decide)))).symm
                  have m11940 := m11898.trans (Wr.neI wH11913 (Or.inr (x_apart hKT hts inX10 tyX10 tyX10_ok nmX10 rfl 35 41 (by decide) (by decide) (by decide)))).symm
                  have m11941 := m11899.trans (Wr.neI wH11913 (Or.inr (x_apart hKT hts inX10 tyX10 tyX10_ok nmX10 rfl 36 41 (by decide) (by decide) (by decide)))).symm
                  have m11942 := (Wr.neI wH11913 (Or.inr (x_apart hKT hts inX10 tyX10 tyX10_ok nmX10 rfl 18 41 (by decide) (by decide) (by decide)))).trans m11900
                  have m11943 := ex11912.trans (Wr.neI wH11913 (Or.inr (x_apart hKT hts inX10 tyX10 tyX10_ok nmX10 rfl 39 41 (by decide) (by decide) (by decide)))).symm
                  have m11944 := Wr.I wH11913
                  have m11944 := m11944.symm
                  clear ex11912 f11876 f11877 g11872 g11873 g11874 g11875 hTH11870 m11878 m11879 m11880 m11881 m11882 m11883 m11884 m11885 m11886 m11887 m11888 m11890 m11891 m11892 m11893 m11894 m11895 m11896 m11897 m11898 m11899 m11900 mf11871
                  refine lv_aload_n hx hb dX10_text_120 rfl (lv_at hl11869 2 rfl) ?_
                  refine lv_aload_n hx hb dX10_text_121 rfl (lv_at hl11869 2 rfl) ?_
                  refine x_gi C hTH11913 (ci := 10) (k := 40) rfl inX10 (by decide) wF_X10_225 ga0 rg_112 rfl dX10_text_122 (fun x11945 ex11945 bx11945 => ?_)
                  refine x_put C hTH11913 hSH11913 (ci := 10) (k := 42) (v := .int x11945) (ty0 := tyX10) rfl inX10 tyX10_ok nmX10 (by decide) rfl wF_X10_92 ga0 rg_112 rfl rfl (okI bx11945.1 bx11945.2) rfl rfl (AE_in ga0 (by decide)) dX10_text_125 (fun H11946 locsH11946 hTH11946 hSH11946 wH11946 => ?_)
                  have mf11947 : MF K s.heap H11946 a0 [0, 18, 19, 20, 21, 22, 34, 35, 36, 38, 39, 40, 41, 42] := MF.fld hap wH11946 (by decide) (by decide) mf11914
                  have g11948 : CG (avw K H11946 a0) := CG.congr (fun k hk j => av_fld hTH11913 ga0 hap wH11946 (by decide) (CG_ok 112 (by decide) k hk) (CG_ne 42 (by decide) k hk)) g11915
                  have g11949 : TU (avw K H11946 a0) (svw K H11946 a0) := TU.congr (fun k hk j => av_fld hTH11913 ga0 hap wH11946 (by decide) (TU_ok 112 (by decide) k hk) (TU_ne 42 (by decide) k hk)) (fun k hk => sv_fld hap wH11946 (by decide) (TU_slt k hk) (TU_sne 42 (by decide) k hk)) g11916
                  have g11950 : WD (avw K H11946 a0) := WD.congr (fun k hk j => av_fld hTH11913 ga0 hap wH11946 (by decide) (WD_ok 112 (by decide) k hk) (WD_ne 42 (by decide) k hk)) g11917
                  have g11951 : IM (avw K H11946 a0) := IM.congr (fun k hk j => av_fld hTH11913 ga0 hap wH11946 (by decide) (IM_ok 112 (by decide) k hk) (IM_ne 42 (by decide) k hk)) g11918
                  have f11952 : ∀ j : Nat, bt j = (fI H11946 tq j).toInt := fun j => (f11919 j).trans (congrArg Int32.toInt (Wr.neI wH11946 (Or.inl (G_ne gtq ga0 (by decide)))).symm)
                  have f11953 : ∀ j : Nat, fI H11946 mq j = fI s.heap mq j := fun j => (Wr.neI wH11946 (Or.inl (G_ne gmq ga0 (by decide)))).trans (f11920 j)
                  have m11954 := m11921.trans (Wr.neR wH11946 (Or.inr (x_apart hKT hts inX10 tyX10 tyX10_ok nmX10 rfl 32 42 (by decide) (by decide) (by decide)))).symm
                  have m11955 := m11922.trans (Wr.neR wH11946 (Or.inr (x_apart hKT hts inX10 tyX10 tyX10_ok nmX10 rfl 33 42 (by decide) (by decide) (by decide)))).symm
                  have m11956 := m11923.trans (Wr.neR wH11946 (Or.inr (x_apart hKT hts inX10 tyX10 tyX10_ok nmX10 rfl 29 42 (by decide) (by decide) (by decide)))).symm
                  have m11957 := m11924.trans (Wr.neR wH11946 (Or.inr (x_apart hKT hts inX10 tyX10 tyX10_ok nmX10 rfl 30 42 (by decide) (by decide) (by decide)))).symm
                  have m11958 := m11925.trans (Wr.neR wH11946 (Or.inr (x_apart hKT hts inX10 tyX10 tyX10_ok nmX10 rfl 31 42 (by decide) (by decide) (by decide)))).symm
                  have m11959 := m11926.trans (Wr.neR wH11946 (Or.inr (x_apart hKT hts inX10 tyX10 tyX10_ok nmX10 rfl 24 42 (by decide) (by decide) (by decide)))).symm
                  have m11960 := m11927.trans (Wr.neR wH11946 (Or.inr (x_apart hKT hts inX10 tyX10 tyX10_ok nmX10 rfl 17 42 (by decide) (by decide) (by decide)))).symm
                  have m11961 := m11928.trans (Wr.neR wH11946 (Or.inr (x_apart hKT hts inX10 tyX10 tyX10_ok nmX10 rfl 26 42 (by decide) (by decide) (by decide)))).symm
                  have m11962 := m11929.trans (Wr.neR wH11946 (Or.inr (x_apart hKT hts inX10 tyX10 tyX10_ok nmX10 rfl 27 42 (by decide) (by decide) (by decide)))).symm
                  have m11963 := m11930.trans (Wr.neR wH11946 (Or.inr (x_apart hKT hts inX10 tyX10 tyX10_ok nmX10 rfl 28 42 (by decide) (by decide) (by decide)))).symm
                  have m11964 := m11931.trans (Wr.neR wH11946 (Or.inr (x_apart hKT hts inX10 tyX10 tyX10_ok nmX10 rfl 25 42 (by decide) (by decide) (by decide)))).symm
                  have m11965 := (Wr.neI wH11946 (Or.inr (x_apart hKT hts inX10 tyX10 tyX10_ok nmX10 rfl 0 42 (by decide) (by decide) (by decide)))).trans m11932
                  have m11967 := (Wr.neI wH11946 (Or.inr (x_apart hKT hts inX10 tyX10 tyX10_ok nmX10 rfl 34 42 (by decide) (by decide) (by decide)))).trans m11935
                  have m11968 := m11936.trans (Wr.neI wH11946 (Or.inr (x_apart hKT hts inX10 tyX10 tyX10_ok nmX10 rfl 19 42 (by decide) (by decide) (by decide)))).symm
                  have m11969 := m11937.trans (Wr.neI wH11946 (Or.inr (x_apart hKT hts inX10 tyX10 tyX10_ok nmX10 rfl 20 42 (by decide) (by decide) (by decide)))).symm
                  have m11970 := m11938.trans (Wr.neI wH11946 (Or.inr (x_apart hKT hts inX10 tyX10 tyX10_ok nmX10 rfl 21 42 (by decide) (by decide) (by decide)))).symm
                  have m11971 := m11939.trans (Wr.neI wH11946 (Or.inr (x_apart hKT hts inX10 tyX10 tyX10_ok nmX10 rfl 22 42 (by decide) (by decide) (by decide)))).symm
                  have m11972 := m11940.trans (Wr.neI wH11946 (Or.inr (x_apart hKT hts inX10 tyX10 tyX10_ok nmX10 rfl 35 42 (by decide) (by decide) (by decide)))).symm
                  have m11973 := m11941.trans (Wr.neI wH11946 (Or.inr (x_apart hKT hts inX10 tyX10 tyX10_ok nmX10 rfl 36 42 (by decide) (by decide) (by decide)))).symm
                  have m11974 := (Wr.neI wH11946 (Or.inr (x_apart hKT hts inX10 tyX10 tyX10_ok nmX10 rfl 18 42 (by decide) (by decide) (by decide)))).trans m11942
                  have m11975 := m11943.trans (Wr.neI wH11946 (Or.inr (x_apart hKT hts inX10 tyX10 tyX10_ok nmX10 rfl 39 42 (by decide) (by decide) (by decide)))).symm
                  have m11976 := m11944.trans (Wr.neI wH11946 (Or.inr (x_apart hKT hts inX10 tyX10 tyX10_ok nmX10 rfl 41 42 (by decide) (by decide) (by decide)))).symm
                  have m11977 := ex11945.trans (Wr.neI wH11946 (Or.inr (x_apart hKT hts inX10 tyX10 tyX10_ok nmX10 rfl 40 42 (by decide) (by decide) (by decide)))).symm
                  have m11978 := Wr.I wH11946
                  have m11978 := m11978.symm
                  clear ex11945 f11919 f11920 g11915 g11916 g11917 g11918 hTH11913 m11921 m11922 m11923 m11924 m11925 m11926 m11927 m11928 m11929 m11930 m11931 m11932 m11934 m11935 m11936 m11937 m11938 m11939 m11940 m11941 m11942 m11943 m11944 mf11914
                  refine lv_iload hx hb dX10_text_128 (lv_at hl11869 0 rfl) ?_
                  refine lv_iconst (v := (-1)) hx hb dX10_text_130 (by decide) ?_
                  refine lv_icmp_ne (tgt := 136) hx hb dX10_text_131 (by decide) (fun c11979 => ?_) (fun c11979 => ?_)
                  · have k11980 := i_ne c11979
                    exfalso
                    omega
                  · have k11980 := i_eq c11979
                    refine lv_iconst (v := (-1)) hx hb dX10_text_134 (by decide) ?_
                    exact x_iret C hQ dX10_text_135 hSH11946 (by decide) (by decide) (⟨(-1), x11828, 0, rfl, m11972, (m11974).symm, by omega, m11954, m11955, m11956, m11957, m11958, m11959, m11960, m11961, m11962, m11963, m11964, g11948, g11949, g11950, g11951, mf11947, (TXA.mk (by omega) (by rw [if_neg (by omega)]; rfl) m11846).cast (by omega), Or.inl (by omega), (FRD.rwk (FRD.kept (FRD.kept (FRD.kept (FRD.trans m11848 frd9) (fun l => Wr.neI wH11870 (Or.inl (G_ne glsq ga0 (by decide)))) (fun l => Wr.neI wH11870 (Or.inl (G_ne gl1 ga0 (by decide)))) (fun l => Wr.neI wH11870 (Or.inl (G_ne gl2 ga0 (by decide)))) (fun l => Wr.neI wH11870 (Or.inl (G_ne gl3 ga0 (by decide)))) (fun l => Wr.neI wH11870 (Or.inl (G_ne gf9 ga0 (by decide)))) (fun l => Wr.neI wH11870 (Or.inl (G_ne gf0 ga0 (by decide)))) (fun l => Wr.neI wH11870 (Or.inl (G_ne gf1 ga0 (by decide)))) (fun l => Wr.neI wH11870 (Or.inl (G_ne goq ga0 (by decide)))) (fun l => Wr.neI wH11870 (Or.inl (G_ne gaq ga0 (by decide))))) (fun l => Wr.neI wH11913 (Or.inl (G_ne glsq ga0 (by decide)))) (fun l => Wr.neI wH11913 (Or.inl (G_ne gl1 ga0 (by decide)))) (fun l => Wr.neI wH11913 (Or.inl (G_ne gl2 ga0 (by decide)))) (fun l => Wr.neI wH11913 (Or.inl (G_ne gl3 ga0 (by decide)))) (fun l => Wr.neI wH11913 (Or.inl (G_ne gf9 ga0 (by decide)))) (fun l => Wr.neI wH11913 (Or.inl (G_ne gf0 ga0 (by decide)))) (fun l => Wr.neI wH11913 (Or.inl (G_ne gf1 ga0 (by decide)))) (fun l => Wr.neI wH11913 (Or.inl (G_ne goq ga0 (by decide)))) (fun l => Wr.neI wH11913 (Or.inl (G_ne gaq ga0 (by decide))))) (fun l => Wr.neI wH11946 (Or.inl (G_ne glsq ga0 (by decide)))) (fun l => Wr.neI wH11946 (Or.inl (G_ne gl1 ga0 (by decide)))) (fun l => Wr.neI wH11946 (Or.inl (G_ne gl2 ga0 (by decide)))) (fun l => Wr.neI wH11946 (Or.inl (G_ne gl3 ga0 (by decide)))) (fun l => Wr.neI wH11946 (Or.inl (G_ne gf9 ga0 (by decide)))) (fun l => Wr.neI wH11946 (Or.inl (G_ne gf0 ga0 (by decide)))) (fun l => Wr.neI wH11946 (Or.inl (G_ne gf1 ga0 (by decide)))) (fun l => Wr.neI wH11946 (Or.inl (G_ne goq ga0 (by decide)))) (fun l => Wr.neI wH11946 (Or.inl (G_ne gaq ga0 (by decide))))) f11953), Or.inr ⟨(FRD.kept (FRD.kept (FRD.kept (FRD.trans m11848 frd9) (fun l => Wr.neI wH11870 (Or.inl (G_ne glsq ga0 (by decide)))) (fun l => Wr.neI wH11870 (Or.inl (G_ne gl1 ga0 (by decide)))) (fun l => Wr.neI wH11870 (Or.inl (G_ne gl2 ga0 (by decide)))) (fun l => Wr.neI wH11870 (Or.inl (G_ne gl3 ga0 (by decide)))) (fun l => Wr.neI wH11870 (Or.inl (G_ne gf9 ga0 (by decide)))) (fun l => Wr.neI wH11870 (Or.inl (G_ne gf0 ga0 (by decide)))) (fun l => Wr.neI wH11870 (Or.inl (G_ne gf1 ga0 (by decide)))) (fun l => Wr.neI wH11870 (Or.inl (G_ne goq ga0 (by decide)))) (fun l => Wr.neI wH11870 (Or.inl (G_ne gaq ga0 (by decide))))) (fun l => Wr.neI wH11913 (Or.inl (G_ne glsq ga0 (by decide)))) (fun l => Wr.neI wH11913 (Or.inl (G_ne gl1 ga0 (by decide)))) (fun l => Wr.neI wH11913 (Or.inl (G_ne gl2 ga0 (by decide)))) (fun l => Wr.neI wH11913 (Or.inl (G_ne gl3 ga0 (by decide)))) (fun l => Wr.neI wH11913 (Or.inl (G_ne gf9 ga0 (by decide)))) (fun l => Wr.neI wH11913 (Or.inl (G_ne gf0 ga0 (by decide)))) (fun l => Wr.neI wH11913 (Or.inl (G_ne gf1 ga0 (by decide)))) (fun l => Wr.neI wH11913 (Or.inl (G_ne goq ga0 (by decide)))) (fun l => Wr.neI wH11913 (Or.inl (G_ne gaq ga0 (by decide))))) (fun l => Wr.neI wH11946 (Or.inl (G_ne glsq ga0 (by decide)))) (fun l => Wr.neI wH11946 (Or.inl (G_ne gl1 ga0 (by decide)))) (fun l => Wr.neI wH11946 (Or.inl (G_ne gl2 ga0 (by decide)))) (fun l => Wr.neI wH11946 (Or.inl (G_ne gl3 ga0 (by decide)))) (fun l => Wr.neI wH11946 (Or.inl (G_ne gf9 ga0 (by decide)))) (fun l => Wr.neI wH11946 (Or.inl (G_ne gf0 ga0 (by decide)))) (fun l => Wr.neI wH11946 (Or.inl (G_ne gf1 ga0 (by decide)))) (fun l => Wr.neI wH11946 (Or.inl (G_ne goq ga0 (by decide)))) (fun l => Wr.neI wH11946 (Or.inl (G_ne gaq ga0 (by decide))))), f11953⟩, hTH11946⟩)
      · subst hvH11669
        refine W.eq (g2 := F0 m 41 ls [.int 0]) rfl ?_
        exfalso
        omega
  · have k11666 := i_eq c11665
    exfalso
    omega
