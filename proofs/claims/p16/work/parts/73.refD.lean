theorem WF.keep2 {f g f1 g1 : Nat → Int32} {a z D E : Nat} (h : WF f g a z D E) (hf : ∀ j, a ≤ j → j < z → f1 j = f j) (hg : ∀ j, a ≤ j → j < z → g1 j = g j) : WF f1 g1 a z D E := by
  obtain ⟨d, h1, h2, h3⟩ := h
  refine ⟨d, h1, h2, fun k ha hz => ?_⟩
  have h4 := h3 k ha hz
  rw [hf k ha hz, hg k ha hz]
  by_cases e : a < k
  · rw [hf (k - 1) (by omega) (by omega), hg (k - 1) (by omega) (by omega)]
    exact h4
  · omega
theorem WF.move {f g f1 g1 : Nat → Int32} {A B x y D E : Nat} (h : WF f g (A + x) (A + y) D E) (hf : ∀ t, x ≤ t → t < y → f1 (B + t) = f (A + t)) (hg : ∀ t, x ≤ t → t < y → g1 (B + t) = g (A + t)) : WF f1 g1 (B + x) (B + y) D E := by
  obtain ⟨d, h1, h2, h3⟩ := h
  refine ⟨fun k => d (k - B + A), ?_, ?_, fun k ha hz => ?_⟩
  · show d (B + x - B + A) = D
    rw [show B + x - B + A = A + x by omega]; exact h1
  · show d (B + y - B + A) = E
    rw [show B + y - B + A = A + y by omega]; exact h2
  · obtain ⟨t, rfl⟩ : ∃ t, k = B + t := ⟨k - B, by omega⟩
    have h4 := h3 (A + t) (by omega) (by omega)
    have e1 : B + t - B + A = A + t := by omega
    have e2 : B + t + 1 - B + A = A + t + 1 := by omega
    dsimp only
    rw [e1, e2, hf t (by omega) (by omega), hg t (by omega) (by omega)]
    by_cases e : x < t
    · have e3 : B + t - 1 = B + (t - 1) := by omega
      have e4 : A + t - 1 = A + (t - 1) := by omega
      rw [e3, hf (t - 1) (by omega) (by omega), hg (t - 1) (by omega) (by omega)]
      rw [e4] at h4
      rcases h4 with q | q | q | ⟨q1, q2, q3, q4, q5, q6⟩
      · exact Or.inl q
      · exact Or.inr (Or.inl q)
      · exact Or.inr (Or.inr (Or.inl q))
      · refine Or.inr (Or.inr (Or.inr ⟨q1, q2, q3, q4, q5, q6.imp id (fun z => ⟨by omega, z.2⟩)⟩))
    · rcases h4 with q | q | q | ⟨q1, q2, q3, q4, q5, q6⟩
      · exact Or.inl q
      · exact Or.inr (Or.inl q)
      · exact Or.inr (Or.inr (Or.inl q))
      · refine Or.inr (Or.inr (Or.inr ⟨q1, q2, q3, q4, q5, q6.imp id (fun z => ?_)⟩))
        have := z.1
        omega
/-- the places b .. b + n - 1 are those of s on, the others as they were -/
def CP (f f0 : Nat → Int32) (b s n : Nat) : Prop := (∀ t, t < n → f (b + t) = f0 (s + t)) ∧ ∀ j, j < b ∨ b + n ≤ j → f j = f0 j
theorem CP.rf {f : Nat → Int32} {b s n : Nat} (hn : n = 0) : CP f f b s n := ⟨fun t h => by omega, fun _ _ => rfl⟩
theorem CP.congr {f f0 f1 : Nat → Int32} {b s n : Nat} (e : ∀ j, f1 j = f j) (h : CP f f0 b s n) : CP f1 f0 b s n := by rw [show f1 = f from funext e]; exact h
theorem CP.cast {f f0 : Nat → Int32} {b s n b' s' n' : Nat} (h : CP f f0 b s n) (hb : b' = b) (hs : s' = s) (hn : n' = n) : CP f f0 b' s' n' := by rw [hb, hs, hn]; exact h
theorem CP.step {f f0 f1 : Nat → Int32} {b s n i k : Nat} {x : Int32} (h : CP f f0 b s n) (hi : i = b + n) (hs : b + n ≤ s) (hk : k = s + n) (hx : x = f k) (h1 : f1 i = x) (h2 : ∀ j, j ≠ i → f1 j = f j) : CP f1 f0 b s (n + 1) := by
  subst hk hi
  refine ⟨fun t ht => ?_, fun j hj => ?_⟩
  · by_cases e : t = n
    · subst e
      rw [h1, hx]
      exact h.2 _ (Or.inr (by omega))
    · rw [h2 _ (by omega)]
      exact h.1 t (by omega)
  · rw [h2 j (by omega)]
    exact h.2 j (by omega)
theorem CG.fin {K : KE} {G : Nat → Option Nat} {Hc H : Heap} {b f9 f0 f1 oq aq mq row n i : Nat} {m : Int} (hT : TY K G Hc) (gb : G b = some 112)
    (em : mq = fR Hc b (K.1.2 10 24)) (e9 : f9 = fR Hc b (K.1.2 10 29)) (e0 : f0 = fR Hc b (K.1.2 10 30)) (e1 : f1 = fR Hc b (K.1.2 10 31)) (eo : oq = fR Hc b (K.1.2 10 32)) (ea : aq = fR Hc b (K.1.2 10 33))
    (dm : mq = fR H b (K.1.2 10 24)) (d9 : f9 = fR H b (K.1.2 10 29)) (d0 : f0 = fR H b (K.1.2 10 30)) (d1 : f1 = fR H b (K.1.2 10 31)) (dO : oq = fR H b (K.1.2 10 32)) (dA : aq = fR H b (K.1.2 10 33))
    (cg : CG (avw K Hc b)) (dl : DL (fun k => fI Hc f9 k) (fun k => fI Hc f0 k) (fun k => fI Hc f1 k) (fun k => fI Hc oq k) (fun k => fI Hc aq k) n m) (hn : n ≤ 16) (hrow : row < 6) (hi : m ≤ (i : Int)) (hi5 : i ≤ 500)
    (c9 : CP (fun k => fI H f9 k) (fun k => fI Hc f9 k) (16 * row) 96 n) (c0 : CP (fun k => fI H f0 k) (fun k => fI Hc f0 k) (16 * row) 96 n) (c1 : CP (fun k => fI H f1 k) (fun k => fI Hc f1 k) (16 * row) 96 n)
    (co : CP (fun k => fI H oq k) (fun k => fI Hc oq k) (500 * row) 3000 i) (ca : CP (fun k => fI H aq k) (fun k => fI Hc aq k) (500 * row) 3000 i)
    (cm : (fI H mq row).toInt = (n : Int)) (cn : ∀ j, j ≠ row → fI H mq j = fI Hc mq j) : CG (avw K H b) := by
  have cl : ∀ (y : Int32) (N : Nat), y.toInt ≤ (N : Int) → y.toNatClampNeg ≤ N := fun y N hy => by show y.toInt.toNat ≤ N; omega
  have v24 : ∀ j, avw K H b 24 j = fI H mq j := fun j => by unfold avw; rw [← dm]
  have v29 : ∀ j, avw K H b 29 j = fI H f9 j := fun j => by unfold avw; rw [← d9]
  have v30 : ∀ j, avw K H b 30 j = fI H f0 j := fun j => by unfold avw; rw [← d0]
  have v31 : ∀ j, avw K H b 31 j = fI H f1 j := fun j => by unfold avw; rw [← d1]
  have v32 : avw K H b 32 = fun j => fI H oq j := funext (fun j => by unfold avw; rw [← dO])
  have v33 : avw K H b 33 = fun j => fI H aq j := funext (fun j => by unfold avw; rw [← dA])
  have w24 : ∀ j, avw K Hc b 24 j = fI Hc mq j := fun j => by unfold avw; rw [← em]
  have w29 : ∀ j, avw K Hc b 29 j = fI Hc f9 j := fun j => by unfold avw; rw [← e9]
  have w30 : ∀ j, avw K Hc b 30 j = fI Hc f0 j := fun j => by unfold avw; rw [← e0]
  have w31 : ∀ j, avw K Hc b 31 j = fI Hc f1 j := fun j => by unfold avw; rw [← e1]
  have w32 : avw K Hc b 32 = fun j => fI Hc oq j := funext (fun j => by unfold avw; rw [← eo])
  have w33 : avw K Hc b 33 = fun j => fI Hc aq j := funext (fun j => by unfold avw; rw [← ea])
  intro r l h1 h2 h3
  rw [v24] at h3
  rw [v29, v30, v31, v32, v33]
  by_cases e : r = row
  · subst e
    rw [cm] at h3
    have hl : l < n := by omega
    obtain ⟨q1, q2, q3, q4, ⟨E, q5⟩, F, q6⟩ := dl l hl
    dsimp only at q1 q2 q3 q4 q5 q6
    have x9 : fI H f9 (16 * r + l) = fI Hc f9 (96 + l) := c9.1 l hl
    have x0 : fI H f0 (16 * r + l) = fI Hc f0 (96 + l) := c0.1 l hl
    have x1 : fI H f1 (16 * r + l) = fI Hc f1 (96 + l) := c1.1 l hl
    rw [x9, x0, x1]
    have y0 := cl (fI Hc f0 (96 + l)) i (by omega)
    have y1 := cl (fI Hc f1 (96 + l)) i (by omega)
    exact ⟨⟨E, q5.move (fun t _ ht => co.1 t (by omega)) (fun t _ ht => ca.1 t (by omega))⟩, F, q6.move (fun t _ ht => co.1 t (by omega)) (fun t _ ht => ca.1 t (by omega))⟩
  · rw [cn r e] at h3
    have h5 := cg r l h1 h2 (by rw [w24]; exact h3)
    have hb := av_500 (j := 16 * r + l) hT gb (by omega)
    rw [w29, w30, w31] at hb h5
    rw [w32, w33] at h5
    have x9 : fI H f9 (16 * r + l) = fI Hc f9 (16 * r + l) := c9.2 _ (by omega)
    have x0 : fI H f0 (16 * r + l) = fI Hc f0 (16 * r + l) := c0.2 _ (by omega)
    have x1 : fI H f1 (16 * r + l) = fI Hc f1 (16 * r + l) := c1.2 _ (by omega)
    rw [x9, x0, x1]
    obtain ⟨⟨E, q5⟩, F, q6⟩ := h5
    have y0 := cl (fI Hc f0 (16 * r + l)) 500 (by omega)
    have y1 := cl (fI Hc f1 (16 * r + l)) 500 (by omega)
    exact ⟨⟨E, q5.keep2 (fun j ha hz => co.2 j (by omega)) (fun j ha hz => ca.2 j (by omega))⟩, F, q6.keep2 (fun j ha hz => co.2 j (by omega)) (fun j ha hz => ca.2 j (by omega))⟩
set_option maxHeartbeats 4000000 in
set_option maxRecDepth 100000 in
theorem a_X10_text (l : Launch) (K : KE) (G : Nat → Option Nat) (H : Heap) {a0 : Nat} (x1 : Int32) (x2 : Int32) {oq : Nat} {aq : Nat} {f9 : Nat} {f0 : Nat} {f1 : Nat} {mq : Nat} (mn : Int32) (hT : TY K G H) (ga0 : G a0 = some 112) (goq : G oq = some 136) (eoq : oq = fR H a0 (K.1.2 10 32)) (gaq : G aq = some 137) (eaq : aq = fR H a0 (K.1.2 10 33)) (gf9 : G f9 = some 133) (ef9 : f9 = fR H a0 (K.1.2 10 29)) (gf0 : G f0 = some 134) (ef0 : f0 = fR H a0 (K.1.2 10 30)) (gf1 : G f1 = some 135) (ef1 : f1 = fR H a0 (K.1.2 10 31)) (gmq : G mq = some 128) (emq : mq = fR H a0 (K.1.2 10 24)) (emn : mn = fI H a0 (K.1.2 10 35)) (hg_CG : CG (avw K H a0)) (hg_TU : TU (avw K H a0) (svw K H a0)) (hg_WD : WD (avw K H a0)) (hg_IM : IM (avw K H a0)) : MX l K yX10_text cX10_text 7 (some .int) 10 215 0 0 [.ref a0, .int x1, .int x2] H (AE G [112, 136, 137, 138, 129, 130, 131, 132, 133, 134, 135, 128] H.size) (fun v H1 => ∃ (r : Int32) (t0 : Int32), v = some (.int r) ∧ t0 = fI H1 a0 (K.1.2 10 35) ∧ oq = fR H1 a0 (K.1.2 10 32) ∧ aq = fR H1 a0 (K.1.2 10 33) ∧ f9 = fR H1 a0 (K.1.2 10 29) ∧ f0 = fR H1 a0 (K.1.2 10 30) ∧ f1 = fR H1 a0 (K.1.2 10 31) ∧ mq = fR H1 a0 (K.1.2 10 24) ∧ (CG (avw K H1 a0)) ∧ (TU (avw K H1 a0) (svw K H1 a0)) ∧ (WD (avw K H1 a0)) ∧ (IM (avw K H1 a0)) ∧ TY K G H1) := by
  refine MX.of (by decide +kernel) (Nat.le_of_ble_eq_true rfl) ?_
  intro p e s m below meth c ls Q C hH hl hQ
  subst hH
  have C : CX p K s m _ meth c RX10 cX10_text 7 (some .int) "text" := C
  obtain ⟨hx, hb, hml, hown, hts, hKT, hr, hlocks, hnm⟩ := id C
  have hl : lv_has ls 7 [(0, .ref a0), (1, .int x1), (2, .int x2)] := hl
  have hS : va_S (AE G [112, 136, 137, 138, 129, 130, 131, 132, 133, 134, 135, 128] s.heap.size) s.heap s.heap [] := va_S.rf
  have n_m1 : ((-1) : Int32).toInt = -1 := rfl
  have n_0 : (0 : Int32).toInt = 0 := rfl
  have n_1 : (1 : Int32).toInt = 1 := rfl
  have n_2 : (2 : Int32).toInt = 2 := rfl
  have n_3 : (3 : Int32).toInt = 3 := rfl
  have n_16 : (16 : Int32).toInt = 16 := rfl
  have n_96 : (96 : Int32).toInt = 96 := rfl
  have n_500 : (500 : Int32).toInt = 500 := rfl
  have n_3000 : (3000 : Int32).toInt = 3000 := rfl
  have bmn := ty_fi (x := mn) (k := 35) emn hT ga0 rg_112 rfl
  have hap : ∀ x y, x < 74 → y < 74 → x ≠ y → K.1.2 10 x ≠ K.1.2 10 y := x_apart hKT hts inX10 tyX10 tyX10_ok nmX10 rfl
  have J149 : ∀  (ls11115 : Array Slot) (H11114 : Heap) (locsH11114 : List Loc) (x11117 : Int32) (x11118 : Int32) (x11119 : Int32), lv_has ls11115 7 [(0, .ref a0), (4, .int x11117), (5, .int x11118)] → TY K G H11114 → va_S (AE G [112, 136, 137, 138, 129, 130, 131, 132, 133, 134, 135, 128] s.heap.size) s.heap H11114 locsH11114 → (0 ≤ x11117.toInt ∧ x11117.toInt ≤ 16) → (0 ≤ x11118.toInt ∧ x11118.toInt ≤ 5) → (0 ≤ x11119.toInt ∧ x11119.toInt ≤ 500) → (x11119 = fI H11114 a0 (K.1.2 10 35)) → (oq = fR H11114 a0 (K.1.2 10 32)) → (aq = fR H11114 a0 (K.1.2 10 33)) → (f9 = fR H11114 a0 (K.1.2 10 29)) → (f0 = fR H11114 a0 (K.1.2 10 30)) → (f1 = fR H11114 a0 (K.1.2 10 31)) → (mq = fR H11114 a0 (K.1.2 10 24)) → (CG (avw K H11114 a0)) → (TU (avw K H11114 a0) (svw K H11114 a0)) → (WD (avw K H11114 a0)) → (IM (avw K H11114 a0)) → (DL (fun k => fI H11114 f9 k) (fun k => fI H11114 f0 k) (fun k => fI H11114 f1 k) (fun k => fI H11114 oq k) (fun k => fI H11114 aq k) x11117.toNatClampNeg x11119.toInt) → W p l e ({ frames := 10, cells := 0, slots := 0, locals := 215 } : Room) s m (([.ref a0, .int x1, .int x2] : List Value).toArray) below meth c H11114 locsH11114 0 0 Q (F0 m 149 ls11115 []) := by
    intro  ls11115 H11114 locsH11114 x11117 x11118 x11119 hl11116 hTH11114 hSH11114 bx11117 bx11118 bx11119 ex11119 cy11120_0 cy11120_1 cy11120_2 cy11120_3 cy11120_4 cy11120_5 gy11120_CG gy11120_TU gy11120_WD gy11120_IM hDL
    have J329 : ∀ (nf : Nat) (ls11122 : Array Slot) (H11121 : Heap) (locsH11121 : List Loc) (x11124 : Int32) (x11125 : Int32), lv_has ls11122 7 [(0, .ref a0), (4, .int x11117), (5, .int x11118), (6, .int x11124)] → TY K G H11121 → va_S (AE G [112, 136, 137, 138, 129, 130, 131, 132, 133, 134, 135, 128] s.heap.size) s.heap H11121 locsH11121 → (0 ≤ x11124.toInt ∧ x11124.toInt ≤ 500) → (0 ≤ x11125.toInt ∧ x11125.toInt ≤ 500) → (x11125 = fI H11121 a0 (K.1.2 10 35)) → (oq = fR H11121 a0 (K.1.2 10 32)) → (aq = fR H11121 a0 (K.1.2 10 33)) → (f9 = fR H11121 a0 (K.1.2 10 29)) → (f0 = fR H11121 a0 (K.1.2 10 30)) → (f1 = fR H11121 a0 (K.1.2 10 31)) → (mq = fR H11121 a0 (K.1.2 10 24)) → (CP (fun k => fI H11121 f9 k) (fun k => fI H11114 f9 k) (16 * x11118.toNatClampNeg) (96) (x11117.toNatClampNeg)) → (CP (fun k => fI H11121 f0 k) (fun k => fI H11114 f0 k) (16 * x11118.toNatClampNeg) (96) (x11117.toNatClampNeg)) → (CP (fun k => fI H11121 f1 k) (fun k => fI H11114 f1 k) (16 * x11118.toNatClampNeg) (96) (x11117.toNatClampNeg)) → (CP (fun k => fI H11121 oq k) (fun k => fI H11114 oq k) (500 * x11118.toNatClampNeg) (3000) (x11124.toNatClampNeg)) → (CP (fun k => fI H11121 aq k) (fun k => fI H11114 aq k) (500 * x11118.toNatClampNeg) (3000) (x11124.toNatClampNeg)) → (CP (fun k => fI H11121 mq k) (fun k => fI H11114 mq k) (0) (0) (0)) → (TU (avw K H11121 a0) (svw K H11121 a0)) → (WD (avw K H11121 a0)) → (IM (avw K H11121 a0)) → (500 - x11124.toInt < (nf : Int)) → (x11125.toInt = x11119.toInt) → W p l e ({ frames := 10, cells := 0, slots := 0, locals := 215 } : Room) s m (([.ref a0, .int x1, .int x2] : List Value).toArray) below meth c H11121 locsH11121 0 0 Q (F0 m 329 ls11122 []) := by
      intro nf
      induction nf with
      | zero =>
        intro ls11122 H11121 locsH11121 x11124 x11125 hl11123 hTH11121 hSH11121 bx11124 bx11125 ex11125 cy11126_0 cy11126_1 cy11126_2 cy11126_3 cy11126_4 cy11126_5 by11126_c9 by11126_c0 by11126_c1 by11126_co by11126_ca by11126_cm gy11126_TU gy11126_WD gy11126_IM hm329 iv329
        exfalso
        omega
      | succ nf ih329 =>
        intro ls11122 H11121 locsH11121 x11124 x11125 hl11123 hTH11121 hSH11121 bx11124 bx11125 ex11125 cy11126_0 cy11126_1 cy11126_2 cy11126_3 cy11126_4 cy11126_5 by11126_c9 by11126_c0 by11126_c1 by11126_co by11126_ca by11126_cm gy11126_TU gy11126_WD gy11126_IM hm329 iv329
        refine lv_iload hx hb dX10_text_329 (lv_at hl11123 3 rfl) ?_
        refine lv_aload_n hx hb dX10_text_331 rfl (lv_at hl11123 0 rfl) ?_
        refine x_gi C hTH11121 (ci := 10) (k := 35) rfl inX10 (by decide) wF_X10_228 ga0 rg_112 rfl dX10_text_332 (fun x11127 ex11127 bx11127 => ?_)
        have ux11127 : x11125 = x11127 := (ex11125).trans ex11127.symm
        subst ux11127
        refine lv_icmp_ge (tgt := 394) hx hb dX10_text_335 (by decide) (fun c11128 => ?_) (fun c11128 => ?_)
        · have k11129 := i_le c11128
          refine lv_aload_n hx hb dX10_text_394 rfl (lv_at hl11123 0 rfl) ?_
          refine x_gr C hTH11121 (ci := 10) (k := 24) rfl inX10 (by decide) wF_X10_59 ga0 rg_112 rfl dX10_text_395 (fun q11130 eq11130 gq11130 => ?_)
          have uq11130 : mq = q11130 := (cy11126_5).trans eq11130.symm
          subst uq11130
          refine lv_iload hx hb dX10_text_398 (lv_at hl11123 2 rfl) ?_
          refine lv_iload hx hb dX10_text_400 (lv_at hl11123 1 rfl) ?_
          refine x_iast C hTH11121 hSH11121 gmq rg_128 (by omega) (by show _ < ((7 : Nat) : Int); omega) ⟨by have := i_rng x11117; omega, by have := i_rng x11117; omega⟩ (AE_in gmq (by decide)) dX10_text_402 (fun H11131 locsH11131 hTH11131 hSH11131 wH11131 => ?_)
          have g11132 : TU (avw K H11131 a0) (svw K H11131 a0) := TU.congr (fun k hk j => av_arr hTH11121 ga0 wH11131 gmq (by decide) (TU_ok 128 (by decide) k hk)) (fun k hk => sv_arr ga0 wH11131 gmq (by decide)) gy11126_TU
          have g11133 : WD (avw K H11131 a0) := WD.congr (fun k hk j => av_arr hTH11121 ga0 wH11131 gmq (by decide) (WD_ok 128 (by decide) k hk)) gy11126_WD
          have g11134 : IM (avw K H11131 a0) := IM.congr (fun k hk j => av_arr hTH11121 ga0 wH11131 gmq (by decide) (IM_ok 128 (by decide) k hk)) gy11126_IM
          have b11135 : CP (fun k => fI H11131 f9 k) (fun k => fI H11114 f9 k) (16 * x11118.toNatClampNeg) (96) (x11117.toNatClampNeg) := CP.congr (fun j => Wr.neI wH11131 (Or.inl (G_ne gf9 gmq (by decide)))) by11126_c9
          have b11136 : CP (fun k => fI H11131 f0 k) (fun k => fI H11114 f0 k) (16 * x11118.toNatClampNeg) (96) (x11117.toNatClampNeg) := CP.congr (fun j => Wr.neI wH11131 (Or.inl (G_ne gf0 gmq (by decide)))) by11126_c0
          have b11137 : CP (fun k => fI H11131 f1 k) (fun k => fI H11114 f1 k) (16 * x11118.toNatClampNeg) (96) (x11117.toNatClampNeg) := CP.congr (fun j => Wr.neI wH11131 (Or.inl (G_ne gf1 gmq (by decide)))) by11126_c1
          have b11138 : CP (fun k => fI H11131 oq k) (fun k => fI H11114 oq k) (500 * x11118.toNatClampNeg) (3000) (x11124.toNatClampNeg) := CP.congr (fun j => Wr.neI wH11131 (Or.inl (G_ne goq gmq (by decide)))) by11126_co
          have b11139 : CP (fun k => fI H11131 aq k) (fun k => fI H11114 aq k) (500 * x11118.toNatClampNeg) (3000) (x11124.toNatClampNeg) := CP.congr (fun j => Wr.neI wH11131 (Or.inl (G_ne gaq gmq (by decide)))) by11126_ca
          have m11140 := ex11125.trans (Wr.neI wH11131 (Or.inl (G_ne ga0 gmq (by decide)))).symm
          have m11141 := cy11126_0.trans (Wr.neR wH11131 (Or.inl (G_ne ga0 gmq (by decide)))).symm
          have m11142 := cy11126_1.trans (Wr.neR wH11131 (Or.inl (G_ne ga0 gmq (by decide)))).symm
          have m11143 := cy11126_2.trans (Wr.neR wH11131 (Or.inl (G_ne ga0 gmq (by decide)))).symm
          have m11144 := cy11126_3.trans (Wr.neR wH11131 (Or.inl (G_ne ga0 gmq (by decide)))).symm
          have m11145 := cy11126_4.trans (Wr.neR wH11131 (Or.inl (G_ne ga0 gmq (by decide)))).symm
          have m11146 := cy11126_5.trans (Wr.neR wH11131 (Or.inl (G_ne ga0 gmq (by decide)))).symm
          have m11147 := Wr.I wH11131
          have m11147 := m11147.symm
          clear by11126_c0 by11126_c1 by11126_c9 by11126_ca by11126_cm by11126_co cy11126_0 cy11126_1 cy11126_2 cy11126_3 cy11126_4 cy11126_5 ex11125 gy11126_IM gy11126_TU gy11126_WD hTH11121
          have cf_x11117 := i_cl (x := x11117) (by omega)
          have cf_x11118 := i_cl (x := x11118) (by omega)
          have cf_x11124 := i_cl (x := x11124) (by omega)
          have cf_x11125 := i_cl (x := x11125) (by omega)
          have cgz : CG (avw K H11131 a0) := CG.fin (row := x11118.toNatClampNeg) (n := x11117.toNatClampNeg) (i := x11124.toNatClampNeg) hTH11114 ga0 cy11120_5 cy11120_2 cy11120_3 cy11120_4 cy11120_0 cy11120_1 m11146 m11143 m11144 m11145 m11141 m11142 gy11120_CG  hDL (by omega) (by omega) (by omega) (by omega) (CP.cast b11135 (by omega) (by omega) (by omega)) (CP.cast b11136 (by omega) (by omega) (by omega)) (CP.cast b11137 (by omega) (by omega) (by omega)) (CP.cast b11138 (by omega) (by omega) (by omega)) (CP.cast b11139 (by omega) (by omega) (by omega)) (by rw [Wr.I wH11131]; omega) (fun j hj => (Wr.neI wH11131 (Or.inr hj)).trans (by11126_cm.2 j (Or.inr (by omega))))
          refine lv_iload hx hb dX10_text_403 (lv_at hl11123 1 rfl) ?_
          exact x_iret C hQ dX10_text_405 hSH11131 (by decide) (by decide) (⟨x11117, x11125, rfl, m11140, m11141, m11142, m11143, m11144, m11145, m11146, cgz, g11132, g11133, g11134, hTH11131⟩)
        · have k11129 := i_nle c11128
          refine lv_aload_n hx hb dX10_text_338 rfl (lv_at hl11123 0 rfl) ?_
          refine x_gr C hTH11121 (ci := 10) (k := 32) rfl inX10 (by decide) wF_X10_83 ga0 rg_112 rfl dX10_text_339 (fun q11148 eq11148 gq11148 => ?_)
          have uq11148 : oq = q11148 := (cy11126_0).trans eq11148.symm
          subst uq11148
          refine lv_sipush (v := 500) hx hb dX10_text_342 (by decide) ?_
          refine lv_iload hx hb dX10_text_345 (lv_at hl11123 2 rfl) ?_
          refine lv_imul hx hb dX10_text_347 ?_
          refine lv_topi (fun x11149 ex11149 => ?_)
          have tx11149 := i_mul ex11149 (by rw [n_500]; omega)
          rw [n_500] at tx11149
          refine lv_iload hx hb dX10_text_348 (lv_at hl11123 3 rfl) ?_
          refine lv_iadd hx hb dX10_text_350 ?_
          refine lv_topi (fun x11150 ex11150 => ?_)
          have tx11150 := i_add ex11150 (by omega)
          refine lv_aload_n hx hb dX10_text_351 rfl (lv_at hl11123 0 rfl) ?_
          refine x_gr C hTH11121 (ci := 10) (k := 32) rfl inX10 (by decide) wF_X10_83 ga0 rg_112 rfl dX10_text_352 (fun q11151 eq11151 gq11151 => ?_)
          have uq11151 : oq = q11151 := (cy11126_0).trans eq11151.symm
          subst uq11151
          refine lv_sipush (v := 3000) hx hb dX10_text_355 (by decide) ?_
          refine lv_iload hx hb dX10_text_358 (lv_at hl11123 3 rfl) ?_
          refine lv_iadd hx hb dX10_text_360 ?_
          refine lv_topi (fun x11152 ex11152 => ?_)
          have tx11152 := i_add ex11152 (by omega)
          refine x_ai C hTH11121 goq rg_136 ⟨by omega, by show _ < ((3500 : Nat) : Int); omega⟩ dX10_text_361 (fun x11153 ex11153 bx11153 => ?_)
          refine x_iast C hTH11121 hSH11121 goq rg_136 (by omega) (by show _ < ((3500 : Nat) : Int); omega) ⟨by have := i_rng x11153; omega, by have := i_rng x11153; omega⟩ (AE_in goq (by decide)) dX10_text_362 (fun H11154 locsH11154 hTH11154 hSH11154 wH11154 => ?_)
          have g11155 : TU (avw K H11154 a0) (svw K H11154 a0) := TU.congr (fun k hk j => av_arr hTH11121 ga0 wH11154 goq (by decide) (TU_ok 136 (by decide) k hk)) (fun k hk => sv_arr ga0 wH11154 goq (by decide)) gy11126_TU
          have g11156 : WD (avw K H11154 a0) := WD.congr (fun k hk j => av_arr hTH11121 ga0 wH11154 goq (by decide) (WD_ok 136 (by decide) k hk)) gy11126_WD
          have g11157 : IM (avw K H11154 a0) := IM.congr (fun k hk j => av_arr hTH11121 ga0 wH11154 goq (by decide) (IM_ok 136 (by decide) k hk)) gy11126_IM
          have b11158 : CP (fun k => fI H11154 f9 k) (fun k => fI H11114 f9 k) (16 * x11118.toNatClampNeg) (96) (x11117.toNatClampNeg) := CP.congr (fun j => Wr.neI wH11154 (Or.inl (G_ne gf9 goq (by decide)))) by11126_c9
          have b11159 : CP (fun k => fI H11154 f0 k) (fun k => fI H11114 f0 k) (16 * x11118.toNatClampNeg) (96) (x11117.toNatClampNeg) := CP.congr (fun j => Wr.neI wH11154 (Or.inl (G_ne gf0 goq (by decide)))) by11126_c0
          have b11160 : CP (fun k => fI H11154 f1 k) (fun k => fI H11114 f1 k) (16 * x11118.toNatClampNeg) (96) (x11117.toNatClampNeg) := CP.congr (fun j => Wr.neI wH11154 (Or.inl (G_ne gf1 goq (by decide)))) by11126_c1
          have cv_x11118 := i_cl (x := x11118) (by omega)
          have cv_x11124 := i_cl (x := x11124) (by omega)
          have cv_x11150 := i_cl (x := x11150) (by omega)
          have cv_x11152 := i_cl (x := x11152) (by omega)
          have b11161 : CP (fun k => fI H11154 oq k) (fun k => fI H11114 oq k) (500 * x11118.toNatClampNeg) (3000) (x11124.toNatClampNeg + 1) := CP.step by11126_co (i := x11150.toNatClampNeg) (k := x11152.toNatClampNeg) (x := x11153) (by omega) (by omega) (by omega) ex11153 (Wr.I wH11154) (fun j hj => Wr.neI wH11154 (Or.inr hj))
          have b11162 : CP (fun k => fI H11154 aq k) (fun k => fI H11114 aq k) (500 * x11118.toNatClampNeg) (3000) (x11124.toNatClampNeg) := CP.congr (fun j => Wr.neI wH11154 (Or.inl (G_ne gaq goq (by decide)))) by11126_ca
          have b11163 : CP (fun k => fI H11154 mq k) (fun k => fI H11114 mq k) (0) (0) (0) := CP.congr (fun j => Wr.neI wH11154 (Or.inl (G_ne gmq goq (by decide)))) by11126_cm
          have m11164 := ex11125.trans (Wr.neI wH11154 (Or.inl (G_ne ga0 goq (by decide)))).symm
          have m11165 := cy11126_0.trans (Wr.neR wH11154 (Or.inl (G_ne ga0 goq (by decide)))).symm
          have m11166 := cy11126_1.trans (Wr.neR wH11154 (Or.inl (G_ne ga0 goq (by decide)))).symm
          have m11167 := cy11126_2.trans (Wr.neR wH11154 (Or.inl (G_ne ga0 goq (by decide)))).symm
          have m11168 := cy11126_3.trans (Wr.neR wH11154 (Or.inl (G_ne ga0 goq (by decide)))).symm
          have m11169 := cy11126_4.trans (Wr.neR wH11154 (Or.inl (G_ne ga0 goq (by decide)))).symm
          have m11170 := cy11126_5.trans (Wr.neR wH11154 (Or.inl (G_ne ga0 goq (by decide)))).symm
          have m11172 := Wr.I wH11154
          have m11172 := m11172.symm
          clear by11126_c0 by11126_c1 by11126_c9 by11126_ca by11126_cm by11126_co cy11126_0 cy11126_1 cy11126_2 cy11126_3 cy11126_4 cy11126_5 ex11125 ex11153 gy11126_IM gy11126_TU gy11126_WD hTH11121
          refine lv_aload_n hx hb dX10_text_363 rfl (lv_at hl11123 0 rfl) ?_
          refine x_gr C hTH11154 (ci := 10) (k := 33) rfl inX10 (by decide) wF_X10_86 ga0 rg_112 rfl dX10_text_364 (fun q11173 eq11173 gq11173 => ?_)
          have uq11173 : aq = q11173 := (m11166).trans eq11173.symm
          subst uq11173
          refine lv_sipush (v := 500) hx hb dX10_text_367 (by decide) ?_
          refine lv_iload hx hb dX10_text_370 (lv_at hl11123 2 rfl) ?_
          refine lv_imul hx hb dX10_text_372 ?_
          refine lv_topi (fun x11174 ex11174 => ?_)
          have tx11174 := i_mul ex11174 (by rw [n_500]; omega)
          rw [n_500] at tx11174
          refine lv_iload hx hb dX10_text_373 (lv_at hl11123 3 rfl) ?_
          refine lv_iadd hx hb dX10_text_375 ?_
          refine lv_topi (fun x11175 ex11175 => ?_)
          have tx11175 := i_add ex11175 (by omega)
          refine lv_aload_n hx hb dX10_text_376 rfl (lv_at hl11123 0 rfl) ?_
          refine x_gr C hTH11154 (ci := 10) (k := 33) rfl inX10 (by decide) wF_X10_86 ga0 rg_112 rfl dX10_text_377 (fun q11176 eq11176 gq11176 => ?_)
          have uq11176 : aq = q11176 := (m11166).trans eq11176.symm
          subst uq11176
          refine lv_sipush (v := 3000) hx hb dX10_text_380 (by decide) ?_
          refine lv_iload hx hb dX10_text_383 (lv_at hl11123 3 rfl) ?_
          refine lv_iadd hx hb dX10_text_385 ?_
          refine lv_topi (fun x11177 ex11177 => ?_)
          have tx11177 := i_add ex11177 (by omega)
          refine x_ai C hTH11154 gaq rg_137 ⟨by omega, by show _ < ((3500 : Nat) : Int); omega⟩ dX10_text_386 (fun x11178 ex11178 bx11178 => ?_)
          refine x_iast C hTH11154 hSH11154 gaq rg_137 (by omega) (by show _ < ((3500 : Nat) : Int); omega) ⟨by have := i_rng x11178; omega, by have := i_rng x11178; omega⟩ (AE_in gaq (by decide)) dX10_text_387 (fun H11179 locsH11179 hTH11179 hSH11179 wH11179 => ?_)
          have g11180 : TU (avw K H11179 a0) (svw K H11179 a0) := TU.congr (fun k hk j => av_arr hTH11154 ga0 wH11179 gaq (by decide) (TU_ok 137 (by decide) k hk)) (fun k hk => sv_arr ga0 wH11179 gaq (by decide)) g11155
          have g11181 : WD (avw K H11179 a0) := WD.congr (fun k hk j => av_arr hTH11154 ga0 wH11179 gaq (by decide) (WD_ok 137 (by decide) k hk)) g11156
          have g11182 : IM (avw K H11179 a0) := IM.congr (fun k hk j => av_arr hTH11154 ga0 wH11179 gaq (by decide) (IM_ok 137 (by decide) k hk)) g11157
          have b11183 : CP (fun k => fI H11179 f9 k) (fun k => fI H11114 f9 k) (16 * x11118.toNatClampNeg) (96) (x11117.toNatClampNeg) := CP.congr (fun j => Wr.neI wH11179 (Or.inl (G_ne gf9 gaq (by decide)))) b11158
          have b11184 : CP (fun k => fI H11179 f0 k) (fun k => fI H11114 f0 k) (16 * x11118.toNatClampNeg) (96) (x11117.toNatClampNeg) := CP.congr (fun j => Wr.neI wH11179 (Or.inl (G_ne gf0 gaq (by decide)))) b11159
          have b11185 : CP (fun k => fI H11179 f1 k) (fun k => fI H11114 f1 k) (16 * x11118.toNatClampNeg) (96) (x11117.toNatClampNeg) := CP.congr (fun j => Wr.neI wH11179 (Or.inl (G_ne gf1 gaq (by decide)))) b11160
          have b11186 : CP (fun k => fI H11179 oq k) (fun k => fI H11114 oq k) (500 * x11118.toNatClampNeg) (3000) (x11124.toNatClampNeg + 1) := CP.congr (fun j => Wr.neI wH11179 (Or.inl (G_ne goq gaq (by decide)))) b11161
          have cv_x11175 := i_cl (x := x11175) (by omega)
          have cv_x11177 := i_cl (x := x11177) (by omega)
          have b11187 : CP (fun k => fI H11179 aq k) (fun k => fI H11114 aq k) (500 * x11118.toNatClampNeg) (3000) (x11124.toNatClampNeg + 1) := CP.step b11162 (i := x11175.toNatClampNeg) (k := x11177.toNatClampNeg) (x := x11178) (by omega) (by omega) (by omega) ex11178 (Wr.I wH11179) (fun j hj => Wr.neI wH11179 (Or.inr hj))
          have b11188 : CP (fun k => fI H11179 mq k) (fun k => fI H11114 mq k) (0) (0) (0) := CP.congr (fun j => Wr.neI wH11179 (Or.inl (G_ne gmq gaq (by decide)))) b11163
          have m11189 := m11164.trans (Wr.neI wH11179 (Or.inl (G_ne ga0 gaq (by decide)))).symm
          have m11190 := m11165.trans (Wr.neR wH11179 (Or.inl (G_ne ga0 gaq (by decide)))).symm
          have m11191 := m11166.trans (Wr.neR wH11179 (Or.inl (G_ne ga0 gaq (by decide)))).symm
          have m11192 := m11167.trans (Wr.neR wH11179 (Or.inl (G_ne ga0 gaq (by decide)))).symm
          have m11193 := m11168.trans (Wr.neR wH11179 (Or.inl (G_ne ga0 gaq (by decide)))).symm
          have m11194 := m11169.trans (Wr.neR wH11179 (Or.inl (G_ne ga0 gaq (by decide)))).symm
          have m11195 := m11170.trans (Wr.neR wH11179 (Or.inl (G_ne ga0 gaq (by decide)))).symm
          have m11196 := m11172.trans (Wr.neI wH11179 (Or.inl (G_ne goq gaq (by decide)))).symm
          have m11198 := Wr.I wH11179
          have m11198 := m11198.symm
          clear b11158 b11159 b11160 b11161 b11162 b11163 ex11178 g11155 g11156 g11157 hTH11154 m11164 m11165 m11166 m11167 m11168 m11169 m11170 m11172
          obtain ⟨x11199, ex11199⟩ : ∃ y : Int32, y = x11124 + 1 := ⟨_, rfl⟩
          have tx11199 := i_add ex11199 (by omega)
          refine lv_iinc (v := x11199) (lv' := [(6, .int x11199), (0, .ref a0), (4, .int x11117), (5, .int x11118)]) hx hb dX10_text_388 hl11123 (k := 3) rfl (by rw [ex11199]; rfl) (by decide) rfl (fun ls11200 hl11201 => ?_)
          refine lv_goto (tgt := 329) hx hb dX10_text_391 (by decide) ?_
          have cl_x11117 := i_cl (x := x11117) (by omega)
          have cl_x11199 := i_cl (x := x11199) (by omega)
          exact ih329 ls11200 H11179 locsH11179 (x11199) (x11125) (lv_sub hl11201 [1, 2, 3, 0] rfl) hTH11179 hSH11179 ⟨by have := i_rng x11199; omega, by have := i_rng x11199; omega⟩ ⟨by have := i_rng x11125; omega, by have := i_rng x11125; omega⟩ m11189 m11190 m11191 m11192 m11193 m11194 m11195 (CP.cast b11183 (by omega) (by omega) (by omega)) (CP.cast b11184 (by omega) (by omega) (by omega)) (CP.cast b11185 (by omega) (by omega) (by omega)) (CP.cast b11186 (by omega) (by omega) (by omega)) (CP.cast b11187 (by omega) (by omega) (by omega)) (CP.cast b11188 (by omega) (by omega) (by omega)) g11180 g11181 g11182 (by omega) (by and_intros <;> first | assumption | omega)
    have J152 : ∀ (nf : Nat) (ls11203 : Array Slot) (H11202 : Heap) (locsH11202 : List Loc) (x11205 : Int32) (x11206 : Int32), lv_has ls11203 7 [(0, .ref a0), (4, .int x11117), (5, .int x11118), (6, .int x11205)] → TY K G H11202 → va_S (AE G [112, 136, 137, 138, 129, 130, 131, 132, 133, 134, 135, 128] s.heap.size) s.heap H11202 locsH11202 → (0 ≤ x11205.toInt ∧ x11205.toInt ≤ 16) → (0 ≤ x11206.toInt ∧ x11206.toInt ≤ 500) → (x11206 = fI H11202 a0 (K.1.2 10 35)) → (oq = fR H11202 a0 (K.1.2 10 32)) → (aq = fR H11202 a0 (K.1.2 10 33)) → (f9 = fR H11202 a0 (K.1.2 10 29)) → (f0 = fR H11202 a0 (K.1.2 10 30)) → (f1 = fR H11202 a0 (K.1.2 10 31)) → (mq = fR H11202 a0 (K.1.2 10 24)) → (CP (fun k => fI H11202 f9 k) (fun k => fI H11114 f9 k) (16 * x11118.toNatClampNeg) (96) (x11205.toNatClampNeg)) → (CP (fun k => fI H11202 f0 k) (fun k => fI H11114 f0 k) (16 * x11118.toNatClampNeg) (96) (x11205.toNatClampNeg)) → (CP (fun k => fI H11202 f1 k) (fun k => fI H11114 f1 k) (16 * x11118.toNatClampNeg) (96) (x11205.toNatClampNeg)) → (CP (fun k => fI H11202 oq k) (fun k => fI H11114 oq k) (500 * x11118.toNatClampNeg) (3000) (0)) → (CP (fun k => fI H11202 aq k) (fun k => fI H11114 aq k) (500 * x11118.toNatClampNeg) (3000) (0)) → (CP (fun k => fI H11202 mq k) (fun k => fI H11114 mq k) (0) (0) (0)) → (TU (avw K H11202 a0) (svw K H11202 a0)) → (WD (avw K H11202 a0)) → (IM (avw K H11202 a0)) → (16 - x11205.toInt < (nf : Int)) → (x11206.toInt = x11119.toInt ∧ x11205.toInt ≤ x11117.toInt) → W p l e ({ frames := 10, cells := 0, slots := 0, locals := 215 } : Room) s m (([.ref a0, .int x1, .int x2] : List Value).toArray) below meth c H11202 locsH11202 0 0 Q (F0 m 152 ls11203 []) := by
      intro nf
      induction nf with
      | zero =>
        intro ls11203 H11202 locsH11202 x11205 x11206 hl11204 hTH11202 hSH11202 bx11205 bx11206 ex11206 cy11207_0 cy11207_1 cy11207_2 cy11207_3 cy11207_4 cy11207_5 by11207_c9 by11207_c0 by11207_c1 by11207_co by11207_ca by11207_cm gy11207_TU gy11207_WD gy11207_IM hm152 iv152
        exfalso
        omega
      | succ nf ih152 =>
        intro ls11203 H11202 locsH11202 x11205 x11206 hl11204 hTH11202 hSH11202 bx11205 bx11206 ex11206 cy11207_0 cy11207_1 cy11207_2 cy11207_3 cy11207_4 cy11207_5 by11207_c9 by11207_c0 by11207_c1 by11207_co by11207_ca by11207_cm gy11207_TU gy11207_WD gy11207_IM hm152 iv152
        refine lv_iload hx hb dX10_text_152 (lv_at hl11204 3 rfl) ?_
        refine lv_iload hx hb dX10_text_154 (lv_at hl11204 1 rfl) ?_
        refine lv_icmp_ge (tgt := 326) hx hb dX10_text_156 (by decide) (fun c11208 => ?_) (fun c11208 => ?_)
        · have k11209 := i_le c11208
          refine lv_iconst (v := 0) hx hb dX10_text_326 (by decide) ?_
          refine lv_istore (lv' := [(6, .int 0), (0, .ref a0), (4, .int x11117), (5, .int x11118)]) hx hb dX10_text_327 hl11204 (by decide) rfl (fun ls11210 hl11211 => ?_)
          have cl00 : (0 : Int32).toNatClampNeg = 0 := rfl
          have cl_x11117 := i_cl (x := x11117) (by omega)
          have cl_x11118 := i_cl (x := x11118) (by omega)
          have cl_x11205 := i_cl (x := x11205) (by omega)
          have cl_0 := i_cl (x := (0 : Int32)) (by omega)
          have cl_0 := i_cl (x := (0 : Int32)) (by omega)
          exact J329 ((500 - (0 : Int32).toInt).toNat + 1) ls11210 H11202 locsH11202 (0) (x11206) (lv_sub hl11211 [1, 2, 3, 0] rfl) hTH11202 hSH11202 (by decide) ⟨by have := i_rng x11206; omega, by have := i_rng x11206; omega⟩ ex11206 cy11207_0 cy11207_1 cy11207_2 cy11207_3 cy11207_4 cy11207_5 (CP.cast by11207_c9 (by omega) (by omega) (by omega)) (CP.cast by11207_c0 (by omega) (by omega) (by omega)) (CP.cast by11207_c1 (by omega) (by omega) (by omega)) (CP.cast by11207_co (by omega) (by omega) (by omega)) (CP.cast by11207_ca (by omega) (by omega) (by omega)) (CP.cast by11207_cm (by omega) (by omega) (by omega)) gy11207_TU gy11207_WD gy11207_IM (by omega) (by and_intros <;> first | assumption | omega)
        · have k11209 := i_nle c11208
          refine lv_aload_n hx hb dX10_text_159 rfl (lv_at hl11204 0 rfl) ?_
          refine x_gr C hTH11202 (ci := 10) (k := 25) rfl inX10 (by decide) wF_X10_62 ga0 rg_112 rfl dX10_text_160 (fun q11212 eq11212 gq11212 => ?_)
          refine lv_bipush (v := 16) hx hb dX10_text_163 (by decide) ?_
          refine lv_iload hx hb dX10_text_165 (lv_at hl11204 2 rfl) ?_
          refine lv_imul hx hb dX10_text_167 ?_
          refine lv_topi (fun x11213 ex11213 => ?_)
          have tx11213 := i_mul ex11213 (by rw [n_16]; omega)
          rw [n_16] at tx11213
          refine lv_iload hx hb dX10_text_168 (lv_at hl11204 3 rfl) ?_
          refine lv_iadd hx hb dX10_text_170 ?_
          refine lv_topi (fun x11214 ex11214 => ?_)
          have tx11214 := i_add ex11214 (by omega)
          refine lv_aload_n hx hb dX10_text_171 rfl (lv_at hl11204 0 rfl) ?_
          refine x_gr C hTH11202 (ci := 10) (k := 25) rfl inX10 (by decide) wF_X10_62 ga0 rg_112 rfl dX10_text_172 (fun q11215 eq11215 gq11215 => ?_)
          have uq11215 : q11212 = q11215 := (eq11212).trans eq11215.symm
          subst uq11215
          refine lv_bipush (v := 96) hx hb dX10_text_175 (by decide) ?_
          refine lv_iload hx hb dX10_text_177 (lv_at hl11204 3 rfl) ?_
          refine lv_iadd hx hb dX10_text_179 ?_
          refine lv_topi (fun x11216 ex11216 => ?_)
          have tx11216 := i_add ex11216 (by omega)
          refine x_ai C hTH11202 gq11212 rg_129 ⟨by omega, by show _ < ((112 : Nat) : Int); omega⟩ dX10_text_180 (fun x11217 ex11217 bx11217 => ?_)
          refine x_iast C hTH11202 hSH11202 gq11212 rg_129 (by omega) (by show _ < ((112 : Nat) : Int); omega) ⟨by have := i_rng x11217; omega, by have := i_rng x11217; omega⟩ (AE_in gq11212 (by decide)) dX10_text_181 (fun H11218 locsH11218 hTH11218 hSH11218 wH11218 => ?_)
          have g11219 : TU (avw K H11218 a0) (svw K H11218 a0) := TU.congr (fun k hk j => av_arr hTH11202 ga0 wH11218 gq11212 (by decide) (TU_ok 129 (by decide) k hk)) (fun k hk => sv_arr ga0 wH11218 gq11212 (by decide)) gy11207_TU
          have g11220 : WD (avw K H11218 a0) := WD.congr (fun k hk j => av_arr hTH11202 ga0 wH11218 gq11212 (by decide) (WD_ok 129 (by decide) k hk)) gy11207_WD
          have g11221 : IM (avw K H11218 a0) := IM.congr (fun k hk j => av_arr hTH11202 ga0 wH11218 gq11212 (by decide) (IM_ok 129 (by decide) k hk)) gy11207_IM
          have b11222 : CP (fun k => fI H11218 f9 k) (fun k => fI H11114 f9 k) (16 * x11118.toNatClampNeg) (96) (x11205.toNatClampNeg) := CP.congr (fun j => Wr.neI wH11218 (Or.inl (G_ne gf9 gq11212 (by decide)))) by11207_c9
          have b11223 : CP (fun k => fI H11218 f0 k) (fun k => fI H11114 f0 k) (16 * x11118.toNatClampNeg) (96) (x11205.toNatClampNeg) := CP.congr (fun j => Wr.neI wH11218 (Or.inl (G_ne gf0 gq11212 (by decide)))) by11207_c0
          have b11224 : CP (fun k => fI H11218 f1 k) (fun k => fI H11114 f1 k) (16 * x11118.toNatClampNeg) (96) (x11205.toNatClampNeg) := CP.congr (fun j => Wr.neI wH11218 (Or.inl (G_ne gf1 gq11212 (by decide)))) by11207_c1
          have b11225 : CP (fun k => fI H11218 oq k) (fun k => fI H11114 oq k) (500 * x11118.toNatClampNeg) (3000) (0) := CP.congr (fun j => Wr.neI wH11218 (Or.inl (G_ne goq gq11212 (by decide)))) by11207_co
          have b11226 : CP (fun k => fI H11218 aq k) (fun k => fI H11114 aq k) (500 * x11118.toNatClampNeg) (3000) (0) := CP.congr (fun j => Wr.neI wH11218 (Or.inl (G_ne gaq gq11212 (by decide)))) by11207_ca
          have b11227 : CP (fun k => fI H11218 mq k) (fun k => fI H11114 mq k) (0) (0) (0) := CP.congr (fun j => Wr.neI wH11218 (Or.inl (G_ne gmq gq11212 (by decide)))) by11207_cm
          have m11228 := ex11206.trans (Wr.neI wH11218 (Or.inl (G_ne ga0 gq11212 (by decide)))).symm
          have m11229 := cy11207_0.trans (Wr.neR wH11218 (Or.inl (G_ne ga0 gq11212 (by decide)))).symm
          have m11230 := cy11207_1.trans (Wr.neR wH11218 (Or.inl (G_ne ga0 gq11212 (by decide)))).symm
          have m11231 := cy11207_2.trans (Wr.neR wH11218 (Or.inl (G_ne ga0 gq11212 (by decide)))).symm
          have m11232 := cy11207_3.trans (Wr.neR wH11218 (Or.inl (G_ne ga0 gq11212 (by decide)))).symm
          have m11233 := cy11207_4.trans (Wr.neR wH11218 (Or.inl (G_ne ga0 gq11212 (by decide)))).symm
          have m11234 := cy11207_5.trans (Wr.neR wH11218 (Or.inl (G_ne ga0 gq11212 (by decide)))).symm
          have m11235 := eq11212.trans (Wr.neR wH11218 (Or.inl (G_ne ga0 gq11212 (by decide)))).symm
          have m11237 := Wr.I wH11218
          have m11237 := m11237.symm
          clear by11207_c0 by11207_c1 by11207_c9 by11207_ca by11207_cm by11207_co cy11207_0 cy11207_1 cy11207_2 cy11207_3 cy11207_4 cy11207_5 eq11212 ex11206 ex11217 gy11207_IM gy11207_TU gy11207_WD hTH11202
          refine lv_aload_n hx hb dX10_text_182 rfl (lv_at hl11204 0 rfl) ?_
          refine x_gr C hTH11218 (ci := 10) (k := 26) rfl inX10 (by decide) wF_X10_65 ga0 rg_112 rfl dX10_text_183 (fun q11238 eq11238 gq11238 => ?_)
          refine lv_bipush (v := 16) hx hb dX10_text_186 (by decide) ?_
          refine lv_iload hx hb dX10_text_188 (lv_at hl11204 2 rfl) ?_
          refine lv_imul hx hb dX10_text_190 ?_
          refine lv_topi (fun x11239 ex11239 => ?_)
          have tx11239 := i_mul ex11239 (by rw [n_16]; omega)
          rw [n_16] at tx11239
          refine lv_iload hx hb dX10_text_191 (lv_at hl11204 3 rfl) ?_
          refine lv_iadd hx hb dX10_text_193 ?_
          refine lv_topi (fun x11240 ex11240 => ?_)
          have tx11240 := i_add ex11240 (by omega)
          refine lv_aload_n hx hb dX10_text_194 rfl (lv_at hl11204 0 rfl) ?_
          refine x_gr C hTH11218 (ci := 10) (k := 26) rfl inX10 (by decide) wF_X10_65 ga0 rg_112 rfl dX10_text_195 (fun q11241 eq11241 gq11241 => ?_)
          have uq11241 : q11238 = q11241 := (eq11238).trans eq11241.symm
          subst uq11241
          refine lv_bipush (v := 96) hx hb dX10_text_198 (by decide) ?_
          refine lv_iload hx hb dX10_text_200 (lv_at hl11204 3 rfl) ?_
          refine lv_iadd hx hb dX10_text_202 ?_
          refine lv_topi (fun x11242 ex11242 => ?_)
          have tx11242 := i_add ex11242 (by omega)
          refine x_ai C hTH11218 gq11238 rg_130 ⟨by omega, by show _ < ((112 : Nat) : Int); omega⟩ dX10_text_203 (fun x11243 ex11243 bx11243 => ?_)
          refine x_iast C hTH11218 hSH11218 gq11238 rg_130 (by omega) (by show _ < ((112 : Nat) : Int); omega) ⟨by have := i_rng x11243; omega, by have := i_rng x11243; omega⟩ (AE_in gq11238 (by decide)) dX10_text_204 (fun H11244 locsH11244 hTH11244 hSH11244 wH11244 => ?_)
          have g11245 : TU (avw K H11244 a0) (svw K H11244 a0) := TU.congr (fun k hk j => av_arr hTH11218 ga0 wH11244 gq11238 (by decide) (TU_ok 130 (by decide) k hk)) (fun k hk => sv_arr ga0 wH11244 gq11238 (by decide)) g11219
          have g11246 : WD (avw K H11244 a0) := WD.congr (fun k hk j => av_arr hTH11218 ga0 wH11244 gq11238 (by decide) (WD_ok 130 (by decide) k hk)) g11220
          have g11247 : IM (avw K H11244 a0) := IM.congr (fun k hk j => av_arr hTH11218 ga0 wH11244 gq11238 (by decide) (IM_ok 130 (by decide) k hk)) g11221
          have b11248 : CP (fun k => fI H11244 f9 k) (fun k => fI H11114 f9 k) (16 * x11118.toNatClampNeg) (96) (x11205.toNatClampNeg) := CP.congr (fun j => Wr.neI wH11244 (Or.inl (G_ne gf9 gq11238 (by decide)))) b11222
          have b11249 : CP (fun k => fI H11244 f0 k) (fun k => fI H11114 f0 k) (16 * x11118.toNatClampNeg) (96) (x11205.toNatClampNeg) := CP.congr (fun j => Wr.neI wH11244 (Or.inl (G_ne gf0 gq11238 (by decide)))) b11223
          have b11250 : CP (fun k => fI H11244 f1 k) (fun k => fI H11114 f1 k) (16 * x11118.toNatClampNeg) (96) (x11205.toNatClampNeg) := CP.congr (fun j => Wr.neI wH11244 (Or.inl (G_ne gf1 gq11238 (by decide)))) b11224
          have b11251 : CP (fun k => fI H11244 oq k) (fun k => fI H11114 oq k) (500 * x11118.toNatClampNeg) (3000) (0) := CP.congr (fun j => Wr.neI wH11244 (Or.inl (G_ne goq gq11238 (by decide)))) b11225
          have b11252 : CP (fun k => fI H11244 aq k) (fun k => fI H11114 aq k) (500 * x11118.toNatClampNeg) (3000) (0) := CP.congr (fun j => Wr.neI wH11244 (Or.inl (G_ne gaq gq11238 (by decide)))) b11226
          have b11253 : CP (fun k => fI H11244 mq k) (fun k => fI H11114 mq k) (0) (0) (0) := CP.congr (fun j => Wr.neI wH11244 (Or.inl (G_ne gmq gq11238 (by decide)))) b11227
          have m11254 := m11228.trans (Wr.neI wH11244 (Or.inl (G_ne ga0 gq11238 (by decide)))).symm
          have m11255 := m11229.trans (Wr.neR wH11244 (Or.inl (G_ne ga0 gq11238 (by decide)))).symm
          have m11256 := m11230.trans (Wr.neR wH11244 (Or.inl (G_ne ga0 gq11238 (by decide)))).symm
          have m11257 := m11231.trans (Wr.neR wH11244 (Or.inl (G_ne ga0 gq11238 (by decide)))).symm
          have m11258 := m11232.trans (Wr.neR wH11244 (Or.inl (G_ne ga0 gq11238 (by decide)))).symm
          have m11259 := m11233.trans (Wr.neR wH11244 (Or.inl (G_ne ga0 gq11238 (by decide)))).symm
          have m11260 := m11234.trans (Wr.neR wH11244 (Or.inl (G_ne ga0 gq11238 (by decide)))).symm
          have m11261 := m11235.trans (Wr.neR wH11244 (Or.inl (G_ne ga0 gq11238 (by decide)))).symm
          have m11262 := m11237.trans (Wr.neI wH11244 (Or.inl (G_ne gq11212 gq11238 (by decide)))).symm
          have m11263 := eq11238.trans (Wr.neR wH11244 (Or.inl (G_ne ga0 gq11238 (by decide)))).symm
          have m11265 := Wr.I wH11244
          have m11265 := m11265.symm
          clear b11222 b11223 b11224 b11225 b11226 b11227 eq11238 ex11243 g11219 g11220 g11221 hTH11218 m11228 m11229 m11230 m11231 m11232 m11233 m11234 m11235 m11237
          refine lv_aload_n hx hb dX10_text_205 rfl (lv_at hl11204 0 rfl) ?_
          refine x_gr C hTH11244 (ci := 10) (k := 27) rfl inX10 (by decide) wF_X10_68 ga0 rg_112 rfl dX10_text_206 (fun q11266 eq11266 gq11266 => ?_)
          refine lv_bipush (v := 16) hx hb dX10_text_209 (by decide) ?_
          refine lv_iload hx hb dX10_text_211 (lv_at hl11204 2 rfl) ?_
          refine lv_imul hx hb dX10_text_213 ?_
          refine lv_topi (fun x11267 ex11267 => ?_)
          have tx11267 := i_mul ex11267 (by rw [n_16]; omega)
          rw [n_16] at tx11267
          refine lv_iload hx hb dX10_text_214 (lv_at hl11204 3 rfl) ?_
          refine lv_iadd hx hb dX10_text_216 ?_
          refine lv_topi (fun x11268 ex11268 => ?_)
          have tx11268 := i_add ex11268 (by omega)
          refine lv_aload_n hx hb dX10_text_217 rfl (lv_at hl11204 0 rfl) ?_
          refine x_gr C hTH11244 (ci := 10) (k := 27) rfl inX10 (by decide) wF_X10_68 ga0 rg_112 rfl dX10_text_218 (fun q11269 eq11269 gq11269 => ?_)
          have uq11269 : q11266 = q11269 := (eq11266).trans eq11269.symm
          subst uq11269
          refine lv_bipush (v := 96) hx hb dX10_text_221 (by decide) ?_
          refine lv_iload hx hb dX10_text_223 (lv_at hl11204 3 rfl) ?_
          refine lv_iadd hx hb dX10_text_225 ?_
          refine lv_topi (fun x11270 ex11270 => ?_)
          have tx11270 := i_add ex11270 (by omega)
          refine x_ai C hTH11244 gq11266 rg_131 ⟨by omega, by show _ < ((112 : Nat) : Int); omega⟩ dX10_text_226 (fun x11271 ex11271 bx11271 => ?_)
          refine x_iast C hTH11244 hSH11244 gq11266 rg_131 (by omega) (by show _ < ((112 : Nat) : Int); omega) ⟨by have := i_rng x11271; omega, by have := i_rng x11271; omega⟩ (AE_in gq11266 (by decide)) dX10_text_227 (fun H11272 locsH11272 hTH11272 hSH11272 wH11272 => ?_)
          have g11273 : TU (avw K H11272 a0) (svw K H11272 a0) := TU.congr (fun k hk j => av_arr hTH11244 ga0 wH11272 gq11266 (by decide) (TU_ok 131 (by decide) k hk)) (fun k hk => sv_arr ga0 wH11272 gq11266 (by decide)) g11245
          have g11274 : WD (avw K H11272 a0) := WD.congr (fun k hk j => av_arr hTH11244 ga0 wH11272 gq11266 (by decide) (WD_ok 131 (by decide) k hk)) g11246
          have g11275 : IM (avw K H11272 a0) := IM.congr (fun k hk j => av_arr hTH11244 ga0 wH11272 gq11266 (by decide) (IM_ok 131 (by decide) k hk)) g11247
          have b11276 : CP (fun k => fI H11272 f9 k) (fun k => fI H11114 f9 k) (16 * x11118.toNatClampNeg) (96) (x11205.toNatClampNeg) := CP.congr (fun j => Wr.neI wH11272 (Or.inl (G_ne gf9 gq11266 (by decide)))) b11248
          have b11277 : CP (fun k => fI H11272 f0 k) (fun k => fI H11114 f0 k) (16 * x11118.toNatClampNeg) (96) (x11205.toNatClampNeg) := CP.congr (fun j => Wr.neI wH11272 (Or.inl (G_ne gf0 gq11266 (by decide)))) b11249
          have b11278 : CP (fun k => fI H11272 f1 k) (fun k => fI H11114 f1 k) (16 * x11118.toNatClampNeg) (96) (x11205.toNatClampNeg) := CP.congr (fun j => Wr.neI wH11272 (Or.inl (G_ne gf1 gq11266 (by decide)))) b11250
          have b11279 : CP (fun k => fI H11272 oq k) (fun k => fI H11114 oq k) (500 * x11118.toNatClampNeg) (3000) (0) := CP.congr (fun j => Wr.neI wH11272 (Or.inl (G_ne goq gq11266 (by decide)))) b11251
          have b11280 : CP (fun k => fI H11272 aq k) (fun k => fI H11114 aq k) (500 * x11118.toNatClampNeg) (3000) (0) := CP.congr (fun j => Wr.neI wH11272 (Or.inl (G_ne gaq gq11266 (by decide)))) b11252
          have b11281 : CP (fun k => fI H11272 mq k) (fun k => fI H11114 mq k) (0) (0) (0) := CP.congr (fun j => Wr.neI wH11272 (Or.inl (G_ne gmq gq11266 (by decide)))) b11253
          have m11282 := m11254.trans (Wr.neI wH11272 (Or.inl (G_ne ga0 gq11266 (by decide)))).symm
          have m11283 := m11255.trans (Wr.neR wH11272 (Or.inl (G_ne ga0 gq11266 (by decide)))).symm
          have m11284 := m11256.trans (Wr.neR wH11272 (Or.inl (G_ne ga0 gq11266 (by decide)))).symm
          have m11285 := m11257.trans (Wr.neR wH11272 (Or.inl (G_ne ga0 gq11266 (by decide)))).symm
          have m11286 := m11258.trans (Wr.neR wH11272 (Or.inl (G_ne ga0 gq11266 (by decide)))).symm
          have m11287 := m11259.trans (Wr.neR wH11272 (Or.inl (G_ne ga0 gq11266 (by decide)))).symm
          have m11288 := m11260.trans (Wr.neR wH11272 (Or.inl (G_ne ga0 gq11266 (by decide)))).symm
          have m11289 := m11261.trans (Wr.neR wH11272 (Or.inl (G_ne ga0 gq11266 (by decide)))).symm
          have m11290 := m11262.trans (Wr.neI wH11272 (Or.inl (G_ne gq11212 gq11266 (by decide)))).symm
          have m11291 := m11263.trans (Wr.neR wH11272 (Or.inl (G_ne ga0 gq11266 (by decide)))).symm
          have m11292 := m11265.trans (Wr.neI wH11272 (Or.inl (G_ne gq11238 gq11266 (by decide)))).symm
          have m11293 := eq11266.trans (Wr.neR wH11272 (Or.inl (G_ne ga0 gq11266 (by decide)))).symm
          have m11295 := Wr.I wH11272
          have m11295 := m11295.symm
          clear b11248 b11249 b11250 b11251 b11252 b11253 eq11266 ex11271 g11245 g11246 g11247 hTH11244 m11254 m11255 m11256 m11257 m11258 m11259 m11260 m11261 m11262 m11263 m11265
          refine lv_aload_n hx hb dX10_text_228 rfl (lv_at hl11204 0 rfl) ?_
          refine x_gr C hTH11272 (ci := 10) (k := 28) rfl inX10 (by decide) wF_X10_71 ga0 rg_112 rfl dX10_text_229 (fun q11296 eq11296 gq11296 => ?_)
          refine lv_bipush (v := 16) hx hb dX10_text_232 (by decide) ?_
          refine lv_iload hx hb dX10_text_234 (lv_at hl11204 2 rfl) ?_
          refine lv_imul hx hb dX10_text_236 ?_
          refine lv_topi (fun x11297 ex11297 => ?_)
          have tx11297 := i_mul ex11297 (by rw [n_16]; omega)
          rw [n_16] at tx11297
          refine lv_iload hx hb dX10_text_237 (lv_at hl11204 3 rfl) ?_
          refine lv_iadd hx hb dX10_text_239 ?_
          refine lv_topi (fun x11298 ex11298 => ?_)
          have tx11298 := i_add ex11298 (by omega)
          refine lv_aload_n hx hb dX10_text_240 rfl (lv_at hl11204 0 rfl) ?_
          refine x_gr C hTH11272 (ci := 10) (k := 28) rfl inX10 (by decide) wF_X10_71 ga0 rg_112 rfl dX10_text_241 (fun q11299 eq11299 gq11299 => ?_)
          have uq11299 : q11296 = q11299 := (eq11296).trans eq11299.symm
          subst uq11299
          refine lv_bipush (v := 96) hx hb dX10_text_244 (by decide) ?_
          refine lv_iload hx hb dX10_text_246 (lv_at hl11204 3 rfl) ?_
          refine lv_iadd hx hb dX10_text_248 ?_
          refine lv_topi (fun x11300 ex11300 => ?_)
          have tx11300 := i_add ex11300 (by omega)
          refine x_ai C hTH11272 gq11296 rg_132 ⟨by omega, by show _ < ((112 : Nat) : Int); omega⟩ dX10_text_249 (fun x11301 ex11301 bx11301 => ?_)
          refine x_iast C hTH11272 hSH11272 gq11296 rg_132 (by omega) (by show _ < ((112 : Nat) : Int); omega) ⟨by have := i_rng x11301; omega, by have := i_rng x11301; omega⟩ (AE_in gq11296 (by decide)) dX10_text_250 (fun H11302 locsH11302 hTH11302 hSH11302 wH11302 => ?_)
          have g11303 : TU (avw K H11302 a0) (svw K H11302 a0) := TU.congr (fun k hk j => av_arr hTH11272 ga0 wH11302 gq11296 (by decide) (TU_ok 132 (by decide) k hk)) (fun k hk => sv_arr ga0 wH11302 gq11296 (by decide)) g11273
          have g11304 : WD (avw K H11302 a0) := WD.congr (fun k hk j => av_arr hTH11272 ga0 wH11302 gq11296 (by decide) (WD_ok 132 (by decide) k hk)) g11274
          have g11305 : IM (avw K H11302 a0) := IM.congr (fun k hk j => av_arr hTH11272 ga0 wH11302 gq11296 (by decide) (IM_ok 132 (by decide) k hk)) g11275
          have b11306 : CP (fun k => fI H11302 f9 k) (fun k => fI H11114 f9 k) (16 * x11118.toNatClampNeg) (96) (x11205.toNatClampNeg) := CP.congr (fun j => Wr.neI wH11302 (Or.inl (G_ne gf9 gq11296 (by decide)))) b11276
          have b11307 : CP (fun k => fI H11302 f0 k) (fun k => fI H11114 f0 k) (16 * x11118.toNatClampNeg) (96) (x11205.toNatClampNeg) := CP.congr (fun j => Wr.neI wH11302 (Or.inl (G_ne gf0 gq11296 (by decide)))) b11277
          have b11308 : CP (fun k => fI H11302 f1 k) (fun k => fI H11114 f1 k) (16 * x11118.toNatClampNeg) (96) (x11205.toNatClampNeg) := CP.congr (fun j => Wr.neI wH11302 (Or.inl (G_ne gf1 gq11296 (by decide)))) b11278
          have b11309 : CP (fun k => fI H11302 oq k) (fun k => fI H11114 oq k) (500 * x11118.toNatClampNeg) (3000) (0) := CP.congr (fun j => Wr.neI wH11302 (Or.inl (G_ne goq gq11296 (by decide)))) b11279
          have b11310 : CP (fun k => fI H11302 aq k) (fun k => fI H11114 aq k) (500 * x11118.toNatClampNeg) (3000) (0) := CP.congr (fun j => Wr.neI wH11302 (Or.inl (G_ne gaq gq11296 (by decide)))) b11280
          have b11311 : CP (fun k => fI H11302 mq k) (fun k => fI H11114 mq k) (0) (0) (0) := CP.congr (fun j => Wr.neI wH11302 (Or.inl (G_ne gmq gq11296 (by decide)))) b11281
          have m11312 := m11282.trans (Wr.neI wH11302 (Or.inl (G_ne ga0 gq11296 (by decide)))).symm
          have m11313 := m11283.trans (Wr.neR wH11302 (Or.inl (G_ne ga0 gq11296 (by decide)))).symm
          have m11314 := m11284.trans (Wr.neR wH11302 (Or.inl (G_ne ga0 gq11296 (by decide)))).symm
          have m11315 := m11285.trans (Wr.neR wH11302 (Or.inl (G_ne ga0 gq11296 (by decide)))).symm
          have m11316 := m11286.trans (Wr.neR wH11302 (Or.inl (G_ne ga0 gq11296 (by decide)))).symm
          have m11317 := m11287.trans (Wr.neR wH11302 (Or.inl (G_ne ga0 gq11296 (by decide)))).symm
          have m11318 := m11288.trans (Wr.neR wH11302 (Or.inl (G_ne ga0 gq11296 (by decide)))).symm
          have m11319 := m11289.trans (Wr.neR wH11302 (Or.inl (G_ne ga0 gq11296 (by decide)))).symm
          have m11320 := m11290.trans (Wr.neI wH11302 (Or.inl (G_ne gq11212 gq11296 (by decide)))).symm
          have m11321 := m11291.trans (Wr.neR wH11302 (Or.inl (G_ne ga0 gq11296 (by decide)))).symm
          have m11322 := m11292.trans (Wr.neI wH11302 (Or.inl (G_ne gq11238 gq11296 (by decide)))).symm
          have m11323 := m11293.trans (Wr.neR wH11302 (Or.inl (G_ne ga0 gq11296 (by decide)))).symm
          have m11324 := m11295.trans (Wr.neI wH11302 (Or.inl (G_ne gq11266 gq11296 (by decide)))).symm
          have m11325 := eq11296.trans (Wr.neR wH11302 (Or.inl (G_ne ga0 gq11296 (by decide)))).symm
          have m11327 := Wr.I wH11302
          have m11327 := m11327.symm
          clear b11276 b11277 b11278 b11279 b11280 b11281 eq11296 ex11301 g11273 g11274 g11275 hTH11272 m11282 m11283 m11284 m11285 m11286 m11287 m11288 m11289 m11290 m11291 m11292 m11293 m11295
          refine lv_aload_n hx hb dX10_text_251 rfl (lv_at hl11204 0 rfl) ?_
          refine x_gr C hTH11302 (ci := 10) (k := 29) rfl inX10 (by decide) wF_X10_74 ga0 rg_112 rfl dX10_text_252 (fun q11328 eq11328 gq11328 => ?_)
          have uq11328 : f9 = q11328 := (m11315).trans eq11328.symm
          subst uq11328
          refine lv_bipush (v := 16) hx hb dX10_text_255 (by decide) ?_
          refine lv_iload hx hb dX10_text_257 (lv_at hl11204 2 rfl) ?_
          refine lv_imul hx hb dX10_text_259 ?_
          refine lv_topi (fun x11329 ex11329 => ?_)
          have tx11329 := i_mul ex11329 (by rw [n_16]; omega)
          rw [n_16] at tx11329
          refine lv_iload hx hb dX10_text_260 (lv_at hl11204 3 rfl) ?_
          refine lv_iadd hx hb dX10_text_262 ?_
          refine lv_topi (fun x11330 ex11330 => ?_)
          have tx11330 := i_add ex11330 (by omega)
          refine lv_aload_n hx hb dX10_text_263 rfl (lv_at hl11204 0 rfl) ?_
          refine x_gr C hTH11302 (ci := 10) (k := 29) rfl inX10 (by decide) wF_X10_74 ga0 rg_112 rfl dX10_text_264 (fun q11331 eq11331 gq11331 => ?_)
          have uq11331 : f9 = q11331 := (m11315).trans eq11331.symm
          subst uq11331
          refine lv_bipush (v := 96) hx hb dX10_text_267 (by decide) ?_
          refine lv_iload hx hb dX10_text_269 (lv_at hl11204 3 rfl) ?_
          refine lv_iadd hx hb dX10_text_271 ?_
          refine lv_topi (fun x11332 ex11332 => ?_)
          have tx11332 := i_add ex11332 (by omega)
          refine x_ai C hTH11302 gf9 rg_133 ⟨by omega, by show _ < ((112 : Nat) : Int); omega⟩ dX10_text_272 (fun x11333 ex11333 bx11333 => ?_)
          refine x_iast C hTH11302 hSH11302 gf9 rg_133 (by omega) (by show _ < ((112 : Nat) : Int); omega) ⟨by have := i_rng x11333; omega, by have := i_rng x11333; omega⟩ (AE_in gf9 (by decide)) dX10_text_273 (fun H11334 locsH11334 hTH11334 hSH11334 wH11334 => ?_)
          have g11335 : TU (avw K H11334 a0) (svw K H11334 a0) := TU.congr (fun k hk j => av_arr hTH11302 ga0 wH11334 gf9 (by decide) (TU_ok 133 (by decide) k hk)) (fun k hk => sv_arr ga0 wH11334 gf9 (by decide)) g11303
          have g11336 : WD (avw K H11334 a0) := WD.congr (fun k hk j => av_arr hTH11302 ga0 wH11334 gf9 (by decide) (WD_ok 133 (by decide) k hk)) g11304
          have g11337 : IM (avw K H11334 a0) := IM.congr (fun k hk j => av_arr hTH11302 ga0 wH11334 gf9 (by decide) (IM_ok 133 (by decide) k hk)) g11305
          have cv_x11118 := i_cl (x := x11118) (by omega)
          have cv_x11205 := i_cl (x := x11205) (by omega)
          have cv_x11330 := i_cl (x := x11330) (by omega)
          have cv_x11332 := i_cl (x := x11332) (by omega)
          have b11338 : CP (fun k => fI H11334 f9 k) (fun k => fI H11114 f9 k) (16 * x11118.toNatClampNeg) (96) (x11205.toNatClampNeg + 1) := CP.step b11306 (i := x11330.toNatClampNeg) (k := x11332.toNatClampNeg) (x := x11333) (by omega) (by omega) (by omega) ex11333 (Wr.I wH11334) (fun j hj => Wr.neI wH11334 (Or.inr hj))
          have b11339 : CP (fun k => fI H11334 f0 k) (fun k => fI H11114 f0 k) (16 * x11118.toNatClampNeg) (96) (x11205.toNatClampNeg) := CP.congr (fun j => Wr.neI wH11334 (Or.inl (G_ne gf0 gf9 (by decide)))) b11307
          have b11340 : CP (fun k => fI H11334 f1 k) (fun k => fI H11114 f1 k) (16 * x11118.toNatClampNeg) (96) (x11205.toNatClampNeg) := CP.congr (fun j => Wr.neI wH11334 (Or.inl (G_ne gf1 gf9 (by decide)))) b11308
          have b11341 : CP (fun k => fI H11334 oq k) (fun k => fI H11114 oq k) (500 * x11118.toNatClampNeg) (3000) (0) := CP.congr (fun j => Wr.neI wH11334 (Or.inl (G_ne goq gf9 (by decide)))) b11309
          have b11342 : CP (fun k => fI H11334 aq k) (fun k => fI H11114 aq k) (500 * x11118.toNatClampNeg) (3000) (0) := CP.congr (fun j => Wr.neI wH11334 (Or.inl (G_ne gaq gf9 (by decide)))) b11310
          have b11343 : CP (fun k => fI H11334 mq k) (fun k => fI H11114 mq k) (0) (0) (0) := CP.congr (fun j => Wr.neI wH11334 (Or.inl (G_ne gmq gf9 (by decide)))) b11311
          have m11344 := m11312.trans (Wr.neI wH11334 (Or.inl (G_ne ga0 gf9 (by decide)))).symm
          have m11345 := m11313.trans (Wr.neR wH11334 (Or.inl (G_ne ga0 gf9 (by decide)))).symm
          have m11346 := m11314.trans (Wr.neR wH11334 (Or.inl (G_ne ga0 gf9 (by decide)))).symm
          have m11347 := m11315.trans (Wr.neR wH11334 (Or.inl (G_ne ga0 gf9 (by decide)))).symm
          have m11348 := m11316.trans (Wr.neR wH11334 (Or.inl (G_ne ga0 gf9 (by decide)))).symm
          have m11349 := m11317.trans (Wr.neR wH11334 (Or.inl (G_ne ga0 gf9 (by decide)))).symm
          have m11350 := m11318.trans (Wr.neR wH11334 (Or.inl (G_ne ga0 gf9 (by decide)))).symm
          have m11351 := m11319.trans (Wr.neR wH11334 (Or.inl (G_ne ga0 gf9 (by decide)))).symm
          have m11352 := m11320.trans (Wr.neI wH11334 (Or.inl (G_ne gq11212 gf9 (by decide)))).symm
          have m11353 := m11321.trans (Wr.neR wH11334 (Or.inl (G_ne ga0 gf9 (by decide)))).symm
          have m11354 := m11322.trans (Wr.neI wH11334 (Or.inl (G_ne gq11238 gf9 (by decide)))).symm
          have m11355 := m11323.trans (Wr.neR wH11334 (Or.inl (G_ne ga0 gf9 (by decide)))).symm
          have m11356 := m11324.trans (Wr.neI wH11334 (Or.inl (G_ne gq11266 gf9 (by decide)))).symm
          have m11357 := m11325.trans (Wr.neR wH11334 (Or.inl (G_ne ga0 gf9 (by decide)))).symm
          have m11358 := m11327.trans (Wr.neI wH11334 (Or.inl (G_ne gq11296 gf9 (by decide)))).symm
          have m11360 := Wr.I wH11334
          have m11360 := m11360.symm
          clear b11306 b11307 b11308 b11309 b11310 b11311 ex11333 g11303 g11304 g11305 hTH11302 m11312 m11313 m11314 m11315 m11316 m11317 m11318 m11319 m11320 m11321 m11322 m11323 m11324 m11325 m11327
          refine lv_aload_n hx hb dX10_text_274 rfl (lv_at hl11204 0 rfl) ?_
          refine x_gr C hTH11334 (ci := 10) (k := 30) rfl inX10 (by decide) wF_X10_77 ga0 rg_112 rfl dX10_text_275 (fun q11361 eq11361 gq11361 => ?_)
          have uq11361 : f0 = q11361 := (m11348).trans eq11361.symm
          subst uq11361
          refine lv_bipush (v := 16) hx hb dX10_text_278 (by decide) ?_
          refine lv_iload hx hb dX10_text_280 (lv_at hl11204 2 rfl) ?_
          refine lv_imul hx hb dX10_text_282 ?_
          refine lv_topi (fun x11362 ex11362 => ?_)
          have tx11362 := i_mul ex11362 (by rw [n_16]; omega)
          rw [n_16] at tx11362
          refine lv_iload hx hb dX10_text_283 (lv_at hl11204 3 rfl) ?_
          refine lv_iadd hx hb dX10_text_285 ?_
          refine lv_topi (fun x11363 ex11363 => ?_)
          have tx11363 := i_add ex11363 (by omega)
          refine lv_aload_n hx hb dX10_text_286 rfl (lv_at hl11204 0 rfl) ?_
          refine x_gr C hTH11334 (ci := 10) (k := 30) rfl inX10 (by decide) wF_X10_77 ga0 rg_112 rfl dX10_text_287 (fun q11364 eq11364 gq11364 => ?_)
          have uq11364 : f0 = q11364 := (m11348).trans eq11364.symm
          subst uq11364
          refine lv_bipush (v := 96) hx hb dX10_text_290 (by decide) ?_
          refine lv_iload hx hb dX10_text_292 (lv_at hl11204 3 rfl) ?_
          refine lv_iadd hx hb dX10_text_294 ?_
          refine lv_topi (fun x11365 ex11365 => ?_)
          have tx11365 := i_add ex11365 (by omega)
          refine x_ai C hTH11334 gf0 rg_134 ⟨by omega, by show _ < ((112 : Nat) : Int); omega⟩ dX10_text_295 (fun x11366 ex11366 bx11366 => ?_)
          refine x_iast C hTH11334 hSH11334 gf0 rg_134 (by omega) (by show _ < ((112 : Nat) : Int); omega) ⟨by have := i_rng x11366; omega, by have := i_rng x11366; omega⟩ (AE_in gf0 (by decide)) dX10_text_296 (fun H11367 locsH11367 hTH11367 hSH11367 wH11367 => ?_)
          have g11368 : TU (avw K H11367 a0) (svw K H11367 a0) := TU.congr (fun k hk j => av_arr hTH11334 ga0 wH11367 gf0 (by decide) (TU_ok 134 (by decide) k hk)) (fun k hk => sv_arr ga0 wH11367 gf0 (by decide)) g11335
          have g11369 : WD (avw K H11367 a0) := WD.congr (fun k hk j => av_arr hTH11334 ga0 wH11367 gf0 (by decide) (WD_ok 134 (by decide) k hk)) g11336
          have g11370 : IM (avw K H11367 a0) := IM.congr (fun k hk j => av_arr hTH11334 ga0 wH11367 gf0 (by decide) (IM_ok 134 (by decide) k hk)) g11337
          have b11371 : CP (fun k => fI H11367 f9 k) (fun k => fI H11114 f9 k) (16 * x11118.toNatClampNeg) (96) (x11205.toNatClampNeg + 1) := CP.congr (fun j => Wr.neI wH11367 (Or.inl (G_ne gf9 gf0 (by decide)))) b11338
          have cv_x11363 := i_cl (x := x11363) (by omega)
          have cv_x11365 := i_cl (x := x11365) (by omega)
          have b11372 : CP (fun k => fI H11367 f0 k) (fun k => fI H11114 f0 k) (16 * x11118.toNatClampNeg) (96) (x11205.toNatClampNeg + 1) := CP.step b11339 (i := x11363.toNatClampNeg) (k := x11365.toNatClampNeg) (x := x11366) (by omega) (by omega) (by omega) ex11366 (Wr.I wH11367) (fun j hj => Wr.neI wH11367 (Or.inr hj))
          have b11373 : CP (fun k => fI H11367 f1 k) (fun k => fI H11114 f1 k) (16 * x11118.toNatClampNeg) (96) (x11205.toNatClampNeg) := CP.congr (fun j => Wr.neI wH11367 (Or.inl (G_ne gf1 gf0 (by decide)))) b11340
          have b11374 : CP (fun k => fI H11367 oq k) (fun k => fI H11114 oq k) (500 * x11118.toNatClampNeg) (3000) (0) := CP.congr (fun j => Wr.neI wH11367 (Or.inl (G_ne goq gf0 (by decide)))) b11341
          have b11375 : CP (fun k => fI H11367 aq k) (fun k => fI H11114 aq k) (500 * x11118.toNatClampNeg) (3000) (0) := CP.congr (fun j => Wr.neI wH11367 (Or.inl (G_ne gaq gf0 (by decide)))) b11342
          have b11376 : CP (fun k => fI H11367 mq k) (fun k => fI H11114 mq k) (0) (0) (0) := CP.congr (fun j => Wr.neI wH11367 (Or.inl (G_ne gmq gf0 (by decide)))) b11343
          have m11377 := m11344.trans (Wr.neI wH11367 (Or.inl (G_ne ga0 gf0 (by decide)))).symm
          have m11378 := m11345.trans (Wr.neR wH11367 (Or.inl (G_ne ga0 gf0 (by decide)))).symm
          have m11379 := m11346.trans (Wr.neR wH11367 (Or.inl (G_ne ga0 gf0 (by decide)))).symm
          have m11380 := m11347.trans (Wr.neR wH11367 (Or.inl (G_ne ga0 gf0 (by decide)))).symm
          have m11381 := m11348.trans (Wr.neR wH11367 (Or.inl (G_ne ga0 gf0 (by decide)))).symm
          have m11382 := m11349.trans (Wr.neR wH11367 (Or.inl (G_ne ga0 gf0 (by decide)))).symm
          have m11383 := m11350.trans (Wr.neR wH11367 (Or.inl (G_ne ga0 gf0 (by decide)))).symm
          have m11384 := m11351.trans (Wr.neR wH11367 (Or.inl (G_ne ga0 gf0 (by decide)))).symm
          have m11385 := m11352.trans (Wr.neI wH11367 (Or.inl (G_ne gq11212 gf0 (by decide)))).symm
          have m11386 := m11353.trans (Wr.neR wH11367 (Or.inl (G_ne ga0 gf0 (by decide)))).symm
          have m11387 := m11354.trans (Wr.neI wH11367 (Or.inl (G_ne gq11238 gf0 (by decide)))).symm
          have m11388 := m11355.trans (Wr.neR wH11367 (Or.inl (G_ne ga0 gf0 (by decide)))).symm
          have m11389 := m11356.trans (Wr.neI wH11367 (Or.inl (G_ne gq11266 gf0 (by decide)))).symm
          have m11390 := m11357.trans (Wr.neR wH11367 (Or.inl (G_ne ga0 gf0 (by decide)))).symm
          have m11391 := m11358.trans (Wr.neI wH11367 (Or.inl (G_ne gq11296 gf0 (by decide)))).symm
          have m11392 := m11360.trans (Wr.neI wH11367 (Or.inl (G_ne gf9 gf0 (by decide)))).symm
          have m11394 := Wr.I wH11367
          have m11394 := m11394.symm
          clear b11338 b11339 b11340 b11341 b11342 b11343 ex11366 g11335 g11336 g11337 hTH11334 m11344 m11345 m11346 m11347 m11348 m11349 m11350 m11351 m11352 m11353 m11354 m11355 m11356 m11357 m11358 m11360
          refine lv_aload_n hx hb dX10_text_297 rfl (lv_at hl11204 0 rfl) ?_
          refine x_gr C hTH11367 (ci := 10) (k := 31) rfl inX10 (by decide) wF_X10_80 ga0 rg_112 rfl dX10_text_298 (fun q11395 eq11395 gq11395 => ?_)
          have uq11395 : f1 = q11395 := (m11382).trans eq11395.symm
          subst uq11395
          refine lv_bipush (v := 16) hx hb dX10_text_301 (by decide) ?_
          refine lv_iload hx hb dX10_text_303 (lv_at hl11204 2 rfl) ?_
          refine lv_imul hx hb dX10_text_305 ?_
          refine lv_topi (fun x11396 ex11396 => ?_)
          have tx11396 := i_mul ex11396 (by rw [n_16]; omega)
          rw [n_16] at tx11396
          refine lv_iload hx hb dX10_text_306 (lv_at hl11204 3 rfl) ?_
          refine lv_iadd hx hb dX10_text_308 ?_
          refine lv_topi (fun x11397 ex11397 => ?_)
          have tx11397 := i_add ex11397 (by omega)
          refine lv_aload_n hx hb dX10_text_309 rfl (lv_at hl11204 0 rfl) ?_
          refine x_gr C hTH11367 (ci := 10) (k := 31) rfl inX10 (by decide) wF_X10_80 ga0 rg_112 rfl dX10_text_310 (fun q11398 eq11398 gq11398 => ?_)
          have uq11398 : f1 = q11398 := (m11382).trans eq11398.symm
          subst uq11398
          refine lv_bipush (v := 96) hx hb dX10_text_313 (by decide) ?_
          refine lv_iload hx hb dX10_text_315 (lv_at hl11204 3 rfl) ?_
          refine lv_iadd hx hb dX10_text_317 ?_
          refine lv_topi (fun x11399 ex11399 => ?_)
          have tx11399 := i_add ex11399 (by omega)
          refine x_ai C hTH11367 gf1 rg_135 ⟨by omega, by show _ < ((112 : Nat) : Int); omega⟩ dX10_text_318 (fun x11400 ex11400 bx11400 => ?_)
          refine x_iast C hTH11367 hSH11367 gf1 rg_135 (by omega) (by show _ < ((112 : Nat) : Int); omega) ⟨by have := i_rng x11400; omega, by have := i_rng x11400; omega⟩ (AE_in gf1 (by decide)) dX10_text_319 (fun H11401 locsH11401 hTH11401 hSH11401 wH11401 => ?_)
          have g11402 : TU (avw K H11401 a0) (svw K H11401 a0) := TU.congr (fun k hk j => av_arr hTH11367 ga0 wH11401 gf1 (by decide) (TU_ok 135 (by decide) k hk)) (fun k hk => sv_arr ga0 wH11401 gf1 (by decide)) g11368
          have g11403 : WD (avw K H11401 a0) := WD.congr (fun k hk j => av_arr hTH11367 ga0 wH11401 gf1 (by decide) (WD_ok 135 (by decide) k hk)) g11369
          have g11404 : IM (avw K H11401 a0) := IM.congr (fun k hk j => av_arr hTH11367 ga0 wH11401 gf1 (by decide) (IM_ok 135 (by decide) k hk)) g11370
          have b11405 : CP (fun k => fI H11401 f9 k) (fun k => fI H11114 f9 k) (16 * x11118.toNatClampNeg) (96) (x11205.toNatClampNeg + 1) := CP.congr (fun j => Wr.neI wH11401 (Or.inl (G_ne gf9 gf1 (by decide)))) b11371
          have b11406 : CP (fun k => fI H11401 f0 k) (fun k => fI H11114 f0 k) (16 * x11118.toNatClampNeg) (96) (x11205.toNatClampNeg + 1) := CP.congr (fun j => Wr.neI wH11401 (Or.inl (G_ne gf0 gf1 (by decide)))) b11372
          have cv_x11397 := i_cl (x := x11397) (by omega)
          have cv_x11399 := i_cl (x := x11399) (by omega)
          have b11407 : CP (fun k => fI H11401 f1 k) (fun k => fI H11114 f1 k) (16 * x11118.toNatClampNeg) (96) (x11205.toNatClampNeg + 1) := CP.step b11373 (i := x11397.toNatClampNeg) (k := x11399.toNatClampNeg) (x := x11400) (by omega) (by omega) (by omega) ex11400 (Wr.I wH11401) (fun j hj => Wr.neI wH11401 (Or.inr hj))
          have b11408 : CP (fun k => fI H11401 oq k) (fun k => fI H11114 oq k) (500 * x11118.toNatClampNeg) (3000) (0) := CP.congr (fun j => Wr.neI wH11401 (Or.inl (G_ne goq gf1 (by decide)))) b11374
          have b11409 : CP (fun k => fI H11401 aq k) (fun k => fI H11114 aq k) (500 * x11118.toNatClampNeg) (3000) (0) := CP.congr (fun j => Wr.neI wH11401 (Or.inl (G_ne gaq gf1 (by decide)))) b11375
          have b11410 : CP (fun k => fI H11401 mq k) (fun k => fI H11114 mq k) (0) (0) (0) := CP.congr (fun j => Wr.neI wH11401 (Or.inl (G_ne gmq gf1 (by decide)))) b11376
          have m11411 := m11377.trans (Wr.neI wH11401 (Or.inl (G_ne ga0 gf1 (by decide)))).symm
          have m11412 := m11378.trans (Wr.neR wH11401 (Or.inl (G_ne ga0 gf1 (by decide)))).symm
          have m11413 := m11379.trans (Wr.neR wH11401 (Or.inl (G_ne ga0 gf1 (by decide)))).symm
          have m11414 := m11380.trans (Wr.neR wH11401 (Or.inl (G_ne ga0 gf1 (by decide)))).symm
          have m11415 := m11381.trans (Wr.neR wH11401 (Or.inl (G_ne ga0 gf1 (by decide)))).symm
          have m11416 := m11382.trans (Wr.neR wH11401 (Or.inl (G_ne ga0 gf1 (by decide)))).symm
          have m11417 := m11383.trans (Wr.neR wH11401 (Or.inl (G_ne ga0 gf1 (by decide)))).symm
          have m11418 := m11384.trans (Wr.neR wH11401 (Or.inl (G_ne ga0 gf1 (by decide)))).symm
          have m11419 := m11385.trans (Wr.neI wH11401 (Or.inl (G_ne gq11212 gf1 (by decide)))).symm
          have m11420 := m11386.trans (Wr.neR wH11401 (Or.inl (G_ne ga0 gf1 (by decide)))).symm
          have m11421 := m11387.trans (Wr.neI wH11401 (Or.inl (G_ne gq11238 gf1 (by decide)))).symm
          have m11422 := m11388.trans (Wr.neR wH11401 (Or.inl (G_ne ga0 gf1 (by decide)))).symm
          have m11423 := m11389.trans (Wr.neI wH11401 (Or.inl (G_ne gq11266 gf1 (by decide)))).symm
          have m11424 := m11390.trans (Wr.neR wH11401 (Or.inl (G_ne ga0 gf1 (by decide)))).symm
          have m11425 := m11391.trans (Wr.neI wH11401 (Or.inl (G_ne gq11296 gf1 (by decide)))).symm
          have m11426 := m11392.trans (Wr.neI wH11401 (Or.inl (G_ne gf9 gf1 (by decide)))).symm
          have m11427 := m11394.trans (Wr.neI wH11401 (Or.inl (G_ne gf0 gf1 (by decide)))).symm
          have m11429 := Wr.I wH11401
          have m11429 := m11429.symm
          clear b11371 b11372 b11373 b11374 b11375 b11376 ex11400 g11368 g11369 g11370 hTH11367 m11377 m11378 m11379 m11380 m11381 m11382 m11383 m11384 m11385 m11386 m11387 m11388 m11389 m11390 m11391 m11392 m11394
          obtain ⟨x11430, ex11430⟩ : ∃ y : Int32, y = x11205 + 1 := ⟨_, rfl⟩
          have tx11430 := i_add ex11430 (by omega)
          refine lv_iinc (v := x11430) (lv' := [(6, .int x11430), (0, .ref a0), (4, .int x11117), (5, .int x11118)]) hx hb dX10_text_320 hl11204 (k := 3) rfl (by rw [ex11430]; rfl) (by decide) rfl (fun ls11431 hl11432 => ?_)
          refine lv_goto (tgt := 152) hx hb dX10_text_323 (by decide) ?_
          have cl_x11430 := i_cl (x := x11430) (by omega)
          exact ih152 ls11431 H11401 locsH11401 (x11430) (x11206) (lv_sub hl11432 [1, 2, 3, 0] rfl) hTH11401 hSH11401 ⟨by have := i_rng x11430; omega, by have := i_rng x11430; omega⟩ ⟨by have := i_rng x11206; omega, by have := i_rng x11206; omega⟩ m11411 m11412 m11413 m11414 m11415 m11416 m11417 (CP.cast b11405 (by omega) (by omega) (by omega)) (CP.cast b11406 (by omega) (by omega) (by omega)) (CP.cast b11407 (by omega) (by omega) (by omega)) (CP.cast b11408 (by omega) (by omega) (by omega)) (CP.cast b11409 (by omega) (by omega) (by omega)) (CP.cast b11410 (by omega) (by omega) (by omega)) g11402 g11403 g11404 (by omega) (by and_intros <;> first | assumption | omega)
    refine lv_iconst (v := 0) hx hb dX10_text_149 (by decide) ?_
    refine lv_istore (lv' := [(6, .int 0), (0, .ref a0), (4, .int x11117), (5, .int x11118)]) hx hb dX10_text_150 hl11116 (by decide) rfl (fun ls11433 hl11434 => ?_)
    have c9z : CP (fun k => fI H11114 f9 k) (fun k => fI H11114 f9 k) (16 * x11118.toNatClampNeg) (96) (0) := CP.rf rfl
    have c0z : CP (fun k => fI H11114 f0 k) (fun k => fI H11114 f0 k) (16 * x11118.toNatClampNeg) (96) (0) := CP.rf rfl
    have c1z : CP (fun k => fI H11114 f1 k) (fun k => fI H11114 f1 k) (16 * x11118.toNatClampNeg) (96) (0) := CP.rf rfl
    have coz : CP (fun k => fI H11114 oq k) (fun k => fI H11114 oq k) (500 * x11118.toNatClampNeg) (3000) (0) := CP.rf rfl
    have caz : CP (fun k => fI H11114 aq k) (fun k => fI H11114 aq k) (500 * x11118.toNatClampNeg) (3000) (0) := CP.rf rfl
    have cmz : CP (fun k => fI H11114 mq k) (fun k => fI H11114 mq k) (0) (0) (0) := CP.rf rfl
    have cl00 : (0 : Int32).toNatClampNeg = 0 := rfl
    have cl_0 := i_cl (x := (0 : Int32)) (by omega)
    have cl_x11118 := i_cl (x := x11118) (by omega)
    have cl_0 := i_cl (x := (0 : Int32)) (by omega)
    have cl_0 := i_cl (x := (0 : Int32)) (by omega)
    exact J152 ((16 - (0 : Int32).toInt).toNat + 1) ls11433 H11114 locsH11114 (0) (x11119) (lv_sub hl11434 [1, 2, 3, 0] rfl) hTH11114 hSH11114 (by decide) ⟨by have := i_rng x11119; omega, by have := i_rng x11119; omega⟩ ex11119 cy11120_0 cy11120_1 cy11120_2 cy11120_3 cy11120_4 cy11120_5 (CP.cast c9z (by omega) (by omega) (by omega)) (CP.cast c0z (by omega) (by omega) (by omega)) (CP.cast c1z (by omega) (by omega) (by omega)) (CP.cast coz (by omega) (by omega) (by omega)) (CP.cast caz (by omega) (by omega) (by omega)) (CP.cast cmz (by omega) (by omega) (by omega)) gy11120_TU gy11120_WD gy11120_IM (by omega) (by and_intros <;> first | assumption | omega)
  refine lv_aload_n hx hb dX10_text_0 rfl (lv_at hl 0 rfl) ?_
  refine lv_iconst (v := 0) hx hb dX10_text_1 (by decide) ?_
  refine x_put C hT hS (ci := 10) (k := 0) (v := .int 0) (ty0 := tyX10) rfl inX10 tyX10_ok nmX10 (by decide) rfl wF_X10_167 ga0 rg_112 rfl rfl (okI (by have := i_rng (0 : Int32); omega) (by have := i_rng (0 : Int32); omega)) rfl rfl (AE_in ga0 (by decide)) dX10_text_2 (fun H11435 locsH11435 hTH11435 hSH11435 wH11435 => ?_)
  have g11436 : CG (avw K H11435 a0) := CG.congr (fun k hk j => av_fld hT ga0 hap wH11435 (by decide) (CG_ok 112 (by decide) k hk) (CG_ne 0 (by decide) k hk)) hg_CG
  have g11437 : TU (avw K H11435 a0) (svw K H11435 a0) := TU.congr (fun k hk j => av_fld hT ga0 hap wH11435 (by decide) (TU_ok 112 (by decide) k hk) (TU_ne 0 (by decide) k hk)) (fun k hk => sv_fld hap wH11435 (by decide) (TU_slt k hk) (TU_sne 0 (by decide) k hk)) hg_TU
  have g11438 : WD (avw K H11435 a0) := WD.congr (fun k hk j => av_fld hT ga0 hap wH11435 (by decide) (WD_ok 112 (by decide) k hk) (WD_ne 0 (by decide) k hk)) hg_WD
  have g11439 : IM (avw K H11435 a0) := IM.congr (fun k hk j => av_fld hT ga0 hap wH11435 (by decide) (IM_ok 112 (by decide) k hk) (IM_ne 0 (by decide) k hk)) hg_IM
  have m11440 := eoq.trans (Wr.neR wH11435 (Or.inr (x_apart hKT hts inX10 tyX10 tyX10_ok nmX10 rfl 32 0 (by decide) (by decide) (by decide)))).symm
  have m11441 := eaq.trans (Wr.neR wH11435 (Or.inr (x_apart hKT hts inX10 tyX10 tyX10_ok nmX10 rfl 33 0 (by decide) (by decide) (by decide)))).symm
  have m11442 := ef9.trans (Wr.neR wH11435 (Or.inr (x_apart hKT hts inX10 tyX10 tyX10_ok nmX10 rfl 29 0 (by decide) (by decide) (by decide)))).symm
  have m11443 := ef0.trans (Wr.neR wH11435 (Or.inr (x_apart hKT hts inX10 tyX10 tyX10_ok nmX10 rfl 30 0 (by decide) (by decide) (by decide)))).symm
  have m11444 := ef1.trans (Wr.neR wH11435 (Or.inr (x_apart hKT hts inX10 tyX10 tyX10_ok nmX10 rfl 31 0 (by decide) (by decide) (by decide)))).symm
  have m11445 := emq.trans (Wr.neR wH11435 (Or.inr (x_apart hKT hts inX10 tyX10 tyX10_ok nmX10 rfl 24 0 (by decide) (by decide) (by decide)))).symm
  have m11446 := emn.trans (Wr.neI wH11435 (Or.inr (x_apart hKT hts inX10 tyX10 tyX10_ok nmX10 rfl 35 0 (by decide) (by decide) (by decide)))).symm
  have m11447 := Wr.I wH11435
  clear eaq ef0 ef1 ef9 emn emq eoq
  refine lv_aload_n hx hb dX10_text_5 rfl (lv_at hl 0 rfl) ?_
  refine lv_iconst (v := 0) hx hb dX10_text_6 (by decide) ?_
  refine x_put C hTH11435 hSH11435 (ci := 10) (k := 41) (v := .int 0) (ty0 := tyX10) rfl inX10 tyX10_ok nmX10 (by decide) rfl wF_X10_292 ga0 rg_112 rfl rfl (okI (by have := i_rng (0 : Int32); omega) (by have := i_rng (0 : Int32); omega)) rfl rfl (AE_in ga0 (by decide)) dX10_text_7 (fun H11448 locsH11448 hTH11448 hSH11448 wH11448 => ?_)
  have g11449 : CG (avw K H11448 a0) := CG.congr (fun k hk j => av_fld hTH11435 ga0 hap wH11448 (by decide) (CG_ok 112 (by decide) k hk) (CG_ne 41 (by decide) k hk)) g11436
  have g11450 : TU (avw K H11448 a0) (svw K H11448 a0) := TU.congr (fun k hk j => av_fld hTH11435 ga0 hap wH11448 (by decide) (TU_ok 112 (by decide) k hk) (TU_ne 41 (by decide) k hk)) (fun k hk => sv_fld hap wH11448 (by decide) (TU_slt k hk) (TU_sne 41 (by decide) k hk)) g11437
  have g11451 : WD (avw K H11448 a0) := WD.congr (fun k hk j => av_fld hTH11435 ga0 hap wH11448 (by decide) (WD_ok 112 (by decide) k hk) (WD_ne 41 (by decide) k hk)) g11438
  have g11452 : IM (avw K H11448 a0) := IM.congr (fun k hk j => av_fld hTH11435 ga0 hap wH11448 (by decide) (IM_ok 112 (by decide) k hk) (IM_ne 41 (by decide) k hk)) g11439
  have m11453 := m11440.trans (Wr.neR wH11448 (Or.inr (x_apart hKT hts inX10 tyX10 tyX10_ok nmX10 rfl 32 41 (by decide) (by decide) (by decide)))).symm
  have m11454 := m11441.trans (Wr.neR wH11448 (Or.inr (x_apart hKT hts inX10 tyX10 tyX10_ok nmX10 rfl 33 41 (by decide) (by decide) (by decide)))).symm
  have m11455 := m11442.trans (Wr.neR wH11448 (Or.inr (x_apart hKT hts inX10 tyX10 tyX10_ok nmX10 rfl 29 41 (by decide) (by decide) (by decide)))).symm
  have m11456 := m11443.trans (Wr.neR wH11448 (Or.inr (x_apart hKT hts inX10 tyX10 tyX10_ok nmX10 rfl 30 41 (by decide) (by decide) (by decide)))).symm
  have m11457 := m11444.trans (Wr.neR wH11448 (Or.inr (x_apart hKT hts inX10 tyX10 tyX10_ok nmX10 rfl 31 41 (by decide) (by decide) (by decide)))).symm
  have m11458 := m11445.trans (Wr.neR wH11448 (Or.inr (x_apart hKT hts inX10 tyX10 tyX10_ok nmX10 rfl 24 41 (by decide) (by decide) (by decide)))).symm
  have m11459 := m11446.trans (Wr.neI wH11448 (Or.inr (x_apart hKT hts inX10 tyX10 tyX10_ok nmX10 rfl 35 41 (by decide) (by decide) (by decide)))).symm
  have m11460 := (Wr.neI wH11448 (Or.inr (x_apart hKT hts inX10 tyX10 tyX10_ok nmX10 rfl 0 41 (by decide) (by decide) (by decide)))).trans m11447
  have m11461 := Wr.I wH11448
  clear g11436 g11437 g11438 g11439 hTH11435 m11440 m11441 m11442 m11443 m11444 m11445 m11446 m11447
  refine lv_aload_n hx hb dX10_text_10 rfl (lv_at hl 0 rfl) ?_
  refine lv_iconst (v := (-1)) hx hb dX10_text_11 (by decide) ?_
  refine x_put C hTH11448 hSH11448 (ci := 10) (k := 42) (v := .int (-1)) (ty0 := tyX10) rfl inX10 tyX10_ok nmX10 (by decide) rfl wF_X10_92 ga0 rg_112 rfl rfl (okI (by have := i_rng ((-1) : Int32); omega) (by have := i_rng ((-1) : Int32); omega)) rfl rfl (AE_in ga0 (by decide)) dX10_text_12 (fun H11462 locsH11462 hTH11462 hSH11462 wH11462 => ?_)
  have g11463 : CG (avw K H11462 a0) := CG.congr (fun k hk j => av_fld hTH11448 ga0 hap wH11462 (by decide) (CG_ok 112 (by decide) k hk) (CG_ne 42 (by decide) k hk)) g11449
  have g11464 : TU (avw K H11462 a0) (svw K H11462 a0) := TU.congr (fun k hk j => av_fld hTH11448 ga0 hap wH11462 (by decide) (TU_ok 112 (by decide) k hk) (TU_ne 42 (by decide) k hk)) (fun k hk => sv_fld hap wH11462 (by decide) (TU_slt k hk) (TU_sne 42 (by decide) k hk)) g11450
  have g11465 : WD (avw K H11462 a0) := WD.congr (fun k hk j => av_fld hTH11448 ga0 hap wH11462 (by decide) (WD_ok 112 (by decide) k hk) (WD_ne 42 (by decide) k hk)) g11451
  have g11466 : IM (avw K H11462 a0) := IM.congr (fun k hk j => av_fld hTH11448 ga0 hap wH11462 (by decide) (IM_ok 112 (by decide) k hk) (IM_ne 42 (by decide) k hk)) g11452
  have m11467 := m11453.trans (Wr.neR wH11462 (Or.inr (x_apart hKT hts inX10 tyX10 tyX10_ok nmX10 rfl 32 42 (by decide) (by decide) (by decide)))).symm
  have m11468 := m11454.trans (Wr.neR wH11462 (Or.inr (x_apart hKT hts inX10 tyX10 tyX10_ok nmX10 rfl 33 42 (by decide) (by decide) (by decide)))).symm
  have m11469 := m11455.trans (Wr.neR wH11462 (Or.inr (x_apart hKT hts inX10 tyX10 tyX10_ok nmX10 rfl 29 42 (by decide) (by decide) (by decide)))).symm
  have m11470 := m11456.trans (Wr.neR wH11462 (Or.inr (x_apart hKT hts inX10 tyX10 tyX10_ok nmX10 rfl 30 42 (by decide) (by decide) (by decide)))).symm
  have m11471 := m11457.trans (Wr.neR wH11462 (Or.inr (x_apart hKT hts inX10 tyX10 tyX10_ok nmX10 rfl 31 42 (by decide) (by decide) (by decide)))).symm
  have m11472 := m11458.trans (Wr.neR wH11462 (Or.inr (x_apart hKT hts inX10 tyX10 tyX10_ok nmX10 rfl 24 42 (by decide) (by decide) (by decide)))).symm
  have m11473 := m11459.trans (Wr.neI wH11462 (Or.inr (x_apart hKT hts inX10 tyX10 tyX10_ok nmX10 rfl 35 42 (by decide) (by decide) (by decide)))).symm
  have m11474 := (Wr.neI wH11462 (Or.inr (x_apart hKT hts inX10 tyX10 tyX10_ok nmX10 rfl 0 42 (by decide) (by decide) (by decide)))).trans m11460
  have m11475 := (Wr.neI wH11462 (Or.inr (x_apart hKT hts inX10 tyX10 tyX10_ok nmX10 rfl 41 42 (by decide) (by decide) (by decide)))).trans m11461
  have m11476 := Wr.I wH11462
  clear g11449 g11450 g11451 g11452 hTH11448 m11453 m11454 m11455 m11456 m11457 m11458 m11459 m11460 m11461
  refine lv_iload_n hx hb dX10_text_15 rfl (lv_at hl 1 rfl) ?_
  refine lv_if_ne (tgt := 29) hx hb dX10_text_16 (by decide) (fun c11477 => ?_) (fun c11477 => ?_)
  · have k11478 := i_ne c11477
    refine lv_iload_n hx hb dX10_text_29 rfl (lv_at hl 1 rfl) ?_
    refine lv_iconst (v := 1) hx hb dX10_text_30 (by decide) ?_
    refine lv_icmp_ne (tgt := 48) hx hb dX10_text_31 (by decide) (fun c11479 => ?_) (fun c11479 => ?_)
    · have k11480 := i_ne c11479
      refine lv_iconst (v := 0) hx hb dX10_text_48 (by decide) ?_
      refine lv_istore_n (lv' := [(3, .int 0), (0, .ref a0), (1, .int x1), (2, .int x2)]) hx hb dX10_text_49 rfl hl (by decide) rfl (fun ls11481 hl11482 => ?_)
      refine lv_aload_n hx hb dX10_text_50 rfl (lv_at hl11482 1 rfl) ?_
      refine lv_iload_n hx hb dX10_text_51 rfl (lv_at hl11482 2 rfl) ?_
      refine lv_iconst (v := 1) hx hb dX10_text_52 (by decide) ?_
      refine lv_icmp_ne (tgt := 60) hx hb dX10_text_53 (by decide) (fun c11483 => ?_) (fun c11483 => ?_)
      · have k11484 := i_ne c11483
        refine lv_iconst (v := 0) hx hb dX10_text_60 (by decide) ?_
        refine x_put C hTH11462 hSH11462 (ci := 10) (k := 34) (v := .int 0) (ty0 := tyX10) rfl inX10 tyX10_ok nmX10 (by decide) rfl wF_X10_231 ga0 rg_112 rfl rfl (okI (by have := i_rng (0 : Int32); omega) (by have := i_rng (0 : Int32); omega)) rfl rfl (AE_in ga0 (by decide)) dX10_text_61 (fun H11485 locsH11485 hTH11485 hSH11485 wH11485 => ?_)
        have g11486 : CG (avw K H11485 a0) := CG.congr (fun k hk j => av_fld hTH11462 ga0 hap wH11485 (by decide) (CG_ok 112 (by decide) k hk) (CG_ne 34 (by decide) k hk)) g11463
        have g11487 : TU (avw K H11485 a0) (svw K H11485 a0) := TU.congr (fun k hk j => av_fld hTH11462 ga0 hap wH11485 (by decide) (TU_ok 112 (by decide) k hk) (TU_ne 34 (by decide) k hk)) (fun k hk => sv_fld hap wH11485 (by decide) (TU_slt k hk) (TU_sne 34 (by decide) k hk)) g11464
        have g11488 : WD (avw K H11485 a0) := WD.congr (fun k hk j => av_fld hTH11462 ga0 hap wH11485 (by decide) (WD_ok 112 (by decide) k hk) (WD_ne 34 (by decide) k hk)) g11465
        have g11489 : IM (avw K H11485 a0) := IM.congr (fun k hk j => av_fld hTH11462 ga0 hap wH11485 (by decide) (IM_ok 112 (by decide) k hk) (IM_ne 34 (by decide) k hk)) g11466
        have m11490 := m11467.trans (Wr.neR wH11485 (Or.inr (x_apart hKT hts inX10 tyX10 tyX10_ok nmX10 rfl 32 34 (by decide) (by decide) (by decide)))).symm
        have m11491 := m11468.trans (Wr.neR wH11485 (Or.inr (x_apart hKT hts inX10 tyX10 tyX10_ok nmX10 rfl 33 34 (by decide) (by decide) (by decide)))).symm
        have m11492 := m11469.trans (Wr.neR wH11485 (Or.inr (x_apart hKT hts inX10 tyX10 tyX10_ok nmX10 rfl 29 34 (by decide) (by decide) (by decide)))).symm
        have m11493 := m11470.trans (Wr.neR wH11485 (Or.inr (x_apart hKT hts inX10 tyX10 tyX10_ok nmX10 rfl 30 34 (by decide) (by decide) (by decide)))).symm
        have m11494 := m11471.trans (Wr.neR wH11485 (Or.inr (x_apart hKT hts inX10 tyX10 tyX10_ok nmX10 rfl 31 34 (by decide) (by decide) (by decide)))).symm
        have m11495 := m11472.trans (Wr.neR wH11485 (Or.inr (x_apart hKT hts inX10 tyX10 tyX10_ok nmX10 rfl 24 34 (by decide) (by decide) (by decide)))).symm
        have m11496 := m11473.trans (Wr.neI wH11485 (Or.inr (x_apart hKT hts inX10 tyX10 tyX10_ok nmX10 rfl 35 34 (by decide) (by decide) (by decide)))).symm
        have m11497 := (Wr.neI wH11485 (Or.inr (x_apart hKT hts inX10 tyX10 tyX10_ok nmX10 rfl 0 34 (by decide) (by decide) (by decide)))).trans m11474
        have m11498 := (Wr.neI wH11485 (Or.inr (x_apart hKT hts inX10 tyX10 tyX10_ok nmX10 rfl 41 34 (by decide) (by decide) (by decide)))).trans m11475
        have m11499 := (Wr.neI wH11485 (Or.inr (x_apart hKT hts inX10 tyX10 tyX10_ok nmX10 rfl 42 34 (by decide) (by decide) (by decide)))).trans m11476
        have m11500 := Wr.I wH11485
        clear g11463 g11464 g11465 g11466 hTH11462 m11467 m11468 m11469 m11470 m11471 m11472 m11473 m11474 m11475 m11476
        refine lv_aload_n hx hb dX10_text_64 rfl (lv_at hl11482 1 rfl) ?_
        refine lv_iconst (v := 0) hx hb dX10_text_65 (by decide) ?_
        refine x_put C hTH11485 hSH11485 (ci := 10) (k := 19) (v := .int 0) (ty0 := tyX10) rfl inX10 tyX10_ok nmX10 (by decide) rfl wF_X10_192 ga0 rg_112 rfl rfl (okI (by have := i_rng (0 : Int32); omega) (by have := i_rng (0 : Int32); omega)) rfl rfl (AE_in ga0 (by decide)) dX10_text_66 (fun H11501 locsH11501 hTH11501 hSH11501 wH11501 => ?_)
        have g11502 : CG (avw K H11501 a0) := CG.congr (fun k hk j => av_fld hTH11485 ga0 hap wH11501 (by decide) (CG_ok 112 (by decide) k hk) (CG_ne 19 (by decide) k hk)) g11486
        have g11503 : TU (avw K H11501 a0) (svw K H11501 a0) := TU.congr (fun k hk j => av_fld hTH11485 ga0 hap wH11501 (by decide) (TU_ok 112 (by decide) k hk) (TU_ne 19 (by decide) k hk)) (fun k hk => sv_fld hap wH11501 (by decide) (TU_slt k hk) (TU_sne 19 (by decide) k hk)) g11487
        have g11504 : WD (avw K H11501 a0) := WD.congr (fun k hk j => av_fld hTH11485 ga0 hap wH11501 (by decide) (WD_ok 112 (by decide) k hk) (WD_ne 19 (by decide) k hk)) g11488
        have g11505 : IM (avw K H11501 a0) := IM.congr (fun k hk j => av_fld hTH11485 ga0 hap wH11501 (by decide) (IM_ok 112 (by decide) k hk) (IM_ne 19 (by decide) k hk)) g11489
        have m11506 := m11490.trans (Wr.neR wH11501 (Or.inr (x_apart hKT hts inX10 tyX10 tyX10_ok nmX10 rfl 32 19 (by decide) (by decide) (by decide)))).symm
        have m11507 := m11491.trans (Wr.neR wH11501 (Or.inr (x_apart hKT hts inX10 tyX10 tyX10_ok nmX10 rfl 33 19 (by decide) (by decide) (by decide)))).symm
        have m11508 := m11492.trans (Wr.neR wH11501 (Or.inr (x_apart hKT hts inX10 tyX10 tyX10_ok nmX10 rfl 29 19 (by decide) (by decide) (by decide)))).symm
        have m11509 := m11493.trans (Wr.neR wH11501 (Or.inr (x_apart hKT hts inX10 tyX10 tyX10_ok nmX10 rfl 30 19 (by decide) (by decide) (by decide)))).symm
        have m11510 := m11494.trans (Wr.neR wH11501 (Or.inr (x_apart hKT hts inX10 tyX10 tyX10_ok nmX10 rfl 31 19 (by decide) (by decide) (by decide)))).symm
        have m11511 := m11495.trans (Wr.neR wH11501 (Or.inr (x_apart hKT hts inX10 tyX10 tyX10_ok nmX10 rfl 24 19 (by decide) (by decide) (by decide)))).symm
        have m11512 := m11496.trans (Wr.neI wH11501 (Or.inr (x_apart hKT hts inX10 tyX10 tyX10_ok nmX10 rfl 35 19 (by decide) (by decide) (by decide)))).symm
        have m11513 := (Wr.neI wH11501 (Or.inr (x_apart hKT hts inX10 tyX10 tyX10_ok nmX10 rfl 0 19 (by decide) (by decide) (by decide)))).trans m11497
        have m11514 := (Wr.neI wH11501 (Or.inr (x_apart hKT hts inX10 tyX10 tyX10_ok nmX10 rfl 41 19 (by decide) (by decide) (by decide)))).trans m11498
        have m11515 := (Wr.neI wH11501 (Or.inr (x_apart hKT hts inX10 tyX10 tyX10_ok nmX10 rfl 42 19 (by decide) (by decide) (by decide)))).trans m11499
        have m11516 := (Wr.neI wH11501 (Or.inr (x_apart hKT hts inX10 tyX10 tyX10_ok nmX10 rfl 34 19 (by decide) (by decide) (by decide)))).trans m11500
        have m11517 := Wr.I wH11501
        clear g11486 g11487 g11488 g11489 hTH11485 m11490 m11491 m11492 m11493 m11494 m11495 m11496 m11497 m11498 m11499 m11500
        refine lv_aload_n hx hb dX10_text_69 rfl (lv_at hl11482 1 rfl) ?_
        refine lv_iconst (v := 0) hx hb dX10_text_70 (by decide) ?_
        refine x_put C hTH11501 hSH11501 (ci := 10) (k := 35) (v := .int 0) (ty0 := tyX10) rfl inX10 tyX10_ok nmX10 (by decide) rfl wF_X10_228 ga0 rg_112 rfl rfl (okI (by have := i_rng (0 : Int32); omega) (by have := i_rng (0 : Int32); omega)) rfl rfl (AE_in ga0 (by decide)) dX10_text_71 (fun H11518 locsH11518 hTH11518 hSH11518 wH11518 => ?_)
        have g11519 : CG (avw K H11518 a0) := CG.congr (fun k hk j => av_fld hTH11501 ga0 hap wH11518 (by decide) (CG_ok 112 (by decide) k hk) (CG_ne 35 (by decide) k hk)) g11502
        have g11520 : TU (avw K H11518 a0) (svw K H11518 a0) := TU.congr (fun k hk j => av_fld hTH11501 ga0 hap wH11518 (by decide) (TU_ok 112 (by decide) k hk) (TU_ne 35 (by decide) k hk)) (fun k hk => sv_fld hap wH11518 (by decide) (TU_slt k hk) (TU_sne 35 (by decide) k hk)) g11503
        have g11521 : WD (avw K H11518 a0) := WD.congr (fun k hk j => av_fld hTH11501 ga0 hap wH11518 (by decide) (WD_ok 112 (by decide) k hk) (WD_ne 35 (by decide) k hk)) g11504
        have g11522 : IM (avw K H11518 a0) := IM.congr (fun k hk j => av_fld hTH11501 ga0 hap wH11518 (by decide) (IM_ok 112 (by decide) k hk) (IM_ne 35 (by decide) k hk)) g11505
        have m11523 := m11506.trans (Wr.neR wH11518 (Or.inr (x_apart hKT hts inX10 tyX10 tyX10_ok nmX10 rfl 32 35 (by decide) (by decide) (by decide)))).symm
        have m11524 := m11507.trans (Wr.neR wH11518 (Or.inr (x_apart hKT hts inX10 tyX10 tyX10_ok nmX10 rfl 33 35 (by decide) (by decide) (by decide)))).symm
        have m11525 := m11508.trans (Wr.neR wH11518 (Or.inr (x_apart hKT hts inX10 tyX10 tyX10_ok nmX10 rfl 29 35 (by decide) (by decide) (by decide)))).symm
        have m11526 := m11509.trans (Wr.neR wH11518 (Or.inr (x_apart hKT hts inX10 tyX10 tyX10_ok nmX10 rfl 30 35 (by decide) (by decide) (by decide)))).symm
        have m11527 := m11510.trans (Wr.neR wH11518 (Or.inr (x_apart hKT hts inX10 tyX10 tyX10_ok nmX10 rfl 31 35 (by decide) (by decide) (by decide)))).symm
        have m11528 := m11511.trans (Wr.neR wH11518 (Or.inr (x_apart hKT hts inX10 tyX10 tyX10_ok nmX10 rfl 24 35 (by decide) (by decide) (by decide)))).symm
        have m11530 := (Wr.neI wH11518 (Or.inr (x_apart hKT hts inX10 tyX10 tyX10_ok nmX10 rfl 0 35 (by decide) (by decide) (by decide)))).trans m11513
        have m11531 := (Wr.neI wH11518 (Or.inr (x_apart hKT hts inX10 tyX10 tyX10_ok nmX10 rfl 41 35 (by decide) (by decide) (by decide)))).trans m11514
        have m11532 := (Wr.neI wH11518 (Or.inr (x_apart hKT hts inX10 tyX10 tyX10_ok nmX10 rfl 42 35 (by decide) (by decide) (by decide)))).trans m11515
        have m11533 := (Wr.neI wH11518 (Or.inr (x_apart hKT hts inX10 tyX10 tyX10_ok nmX10 rfl 34 35 (by decide) (by decide) (by decide)))).trans m11516
        have m11534 := (Wr.neI wH11518 (Or.inr (x_apart hKT hts inX10 tyX10 tyX10_ok nmX10 rfl 19 35 (by decide) (by decide) (by decide)))).trans m11517
        have m11535 := Wr.I wH11518
        clear g11502 g11503 g11504 g11505 hTH11501 m11506 m11507 m11508 m11509 m11510 m11511 m11512 m11513 m11514 m11515 m11516 m11517
        refine lv_aload_n hx hb dX10_text_74 rfl (lv_at hl11482 1 rfl) ?_
        refine lv_iconst (v := 0) hx hb dX10_text_75 (by decide) ?_
        refine x_put C hTH11518 hSH11518 (ci := 10) (k := 36) (v := .int 0) (ty0 := tyX10) rfl inX10 tyX10_ok nmX10 (by decide) rfl wF_X10_261 ga0 rg_112 rfl rfl (okI (by have := i_rng (0 : Int32); omega) (by have := i_rng (0 : Int32); omega)) rfl rfl (AE_in ga0 (by decide)) dX10_text_76 (fun H11536 locsH11536 hTH11536 hSH11536 wH11536 => ?_)
        have g11537 : CG (avw K H11536 a0) := CG.congr (fun k hk j => av_fld hTH11518 ga0 hap wH11536 (by decide) (CG_ok 112 (by decide) k hk) (CG_ne 36 (by decide) k hk)) g11519
        have g11538 : TU (avw K H11536 a0) (svw K H11536 a0) := TU.congr (fun k hk j => av_fld hTH11518 ga0 hap wH11536 (by decide) (TU_ok 112 (by decide) k hk) (TU_ne 36 (by decide) k hk)) (fun k hk => sv_fld hap wH11536 (by decide) (TU_slt k hk) (TU_sne 36 (by decide) k hk)) g11520
        have g11539 : WD (avw K H11536 a0) := WD.congr (fun k hk j => av_fld hTH11518 ga0 hap wH11536 (by decide) (WD_ok 112 (by decide) k hk) (WD_ne 36 (by decide) k hk)) g11521
        have g11540 : IM (avw K H11536 a0) := IM.congr (fun k hk j => av_fld hTH11518 ga0 hap wH11536 (by decide) (IM_ok 112 (by decide) k hk) (IM_ne 36 (by decide) k hk)) g11522
        have m11541 := m11523.trans (Wr.neR wH11536 (Or.inr (x_apart hKT hts inX10 tyX10 tyX10_ok nmX10 rfl 32 36 (by decide) (by decide) (by decide)))).symm
        have m11542 := m11524.trans (Wr.neR wH11536 (Or.inr (x_apart hKT hts inX10 tyX10 tyX10_ok nmX10 rfl 33 36 (by decide) (by decide) (by decide)))).symm
        have m11543 := m11525.trans (Wr.neR wH11536 (Or.inr (x_apart hKT hts inX10 tyX10 tyX10_ok nmX10 rfl 29 36 (by decide) (by decide) (by decide)))).symm
        have m11544 := m11526.trans (Wr.neR wH11536 (Or.inr (x_apart hKT hts inX10 tyX10 tyX10_ok nmX10 rfl 30 36 (by decide) (by decide) (by decide)))).symm
        have m11545 := m11527.trans (Wr.neR wH11536 (Or.inr (x_apart hKT hts inX10 tyX10 tyX10_ok nmX10 rfl 31 36 (by decide) (by decide) (by decide)))).symm
        have m11546 := m11528.trans (Wr.neR wH11536 (Or.inr (x_apart hKT hts inX10 tyX10 tyX10_ok nmX10 rfl 24 36 (by decide) (by decide) (by decide)))).symm
        have m11547 := (Wr.neI wH11536 (Or.inr (x_apart hKT hts inX10 tyX10 tyX10_ok nmX10 rfl 0 36 (by decide) (by decide) (by decide)))).trans m11530
        have m11548 := (Wr.neI wH11536 (Or.inr (x_apart hKT hts inX10 tyX10 tyX10_ok nmX10 rfl 41 36 (by decide) (by decide) (by decide)))).trans m11531
        have m11549 := (Wr.neI wH11536 (Or.inr (x_apart hKT hts inX10 tyX10 tyX10_ok nmX10 rfl 42 36 (by decide) (by decide) (by decide)))).trans m11532
        have m11550 := (Wr.neI wH11536 (Or.inr (x_apart hKT hts inX10 tyX10 tyX10_ok nmX10 rfl 34 36 (by decide) (by decide) (by decide)))).trans m11533
        have m11551 := (Wr.neI wH11536 (Or.inr (x_apart hKT hts inX10 tyX10 tyX10_ok nmX10 rfl 19 36 (by decide) (by decide) (by decide)))).trans m11534
        have m11552 := (Wr.neI wH11536 (Or.inr (x_apart hKT hts inX10 tyX10 tyX10_ok nmX10 rfl 35 36 (by decide) (by decide) (by decide)))).trans m11535
        have m11553 := Wr.I wH11536
        clear g11519 g11520 g11521 g11522 hTH11518 m11523 m11524 m11525 m11526 m11527 m11528 m11530 m11531 m11532 m11533 m11534 m11535
        refine lv_aload_n hx hb dX10_text_79 rfl (lv_at hl11482 1 rfl) ?_
        obtain ⟨q11554, eq11554⟩ : ∃ z : Nat, z = fR H11536 a0 (K.1.2 10 17) := ⟨_, rfl⟩
        have gq11554 := ty_fr (q := q11554) (k := 17) (u := 126) eq11554 hTH11536 ga0 rg_112 rfl
        obtain ⟨x11555, ex11555⟩ : ∃ z : Int32, z = fI H11536 a0 (K.1.2 10 20) := ⟨_, rfl⟩
        have bx11555 := ty_fi (x := x11555) (k := 20) ex11555 hTH11536 ga0 rg_112 rfl
        obtain ⟨x11556, ex11556⟩ : ∃ z : Int32, z = fI H11536 a0 (K.1.2 10 21) := ⟨_, rfl⟩
        have bx11556 := ty_fi (x := x11556) (k := 21) ex11556 hTH11536 ga0 rg_112 rfl
        obtain ⟨x11557, ex11557⟩ : ∃ z : Int32, z = fI H11536 a0 (K.1.2 10 22) := ⟨_, rfl⟩
        have bx11557 := ty_fi (x := x11557) (k := 22) ex11557 hTH11536 ga0 rg_112 rfl
        obtain ⟨x11558, ex11558⟩ : ∃ z : Int32, z = fI H11536 a0 (K.1.2 10 18) := ⟨_, rfl⟩
        have bx11558 := ty_fi (x := x11558) (k := 18) ex11558 hTH11536 ga0 rg_112 rfl
        refine x_V (As := []) (rest := []) C (a_X10_reads l K G H11536 (0) (x11555) (x11556) (x11557) (x11558) hTH11536 ga0 gq11554 eq11554 (m11551).symm ex11555 ex11556 ex11557 ex11558 g11537 g11538 g11539 g11540 (by and_intros <;> first | assumption | omega)) yo_X10_reads wM_X10_242 ⟨⟨by decide, by decide⟩, by decide, by decide⟩ (x_rv C hTH11536 (ci := 10) rfl ga0 rg_112) rfl hl11482.1 rfl (Nat.le_of_ble_eq_true rfl) dX10_text_80 hSH11536 (AE_sub (fun _ _ => rfl) (by decide) hSH11536.1) (fun vH11559 H11559 locsH11559 pH11559 zH11559 kH11559 hSH11559 => ?_)
        obtain ⟨x11560, x11561, x11562, x11563, hvH11559, ex11560, ex11561, ex11562, ex11563, hrH11559, m11564, g11565, g11566, g11567, g11568, mf11569, hTH11559⟩ := pH11559
        subst hvH11559
        have m11570 := (m11541).trans (MF.r mf11569 (k := 32) (by decide) (by decide)).symm
        have m11571 := (m11542).trans (MF.r mf11569 (k := 33) (by decide) (by decide)).symm
        have m11572 := (m11543).trans (MF.r mf11569 (k := 29) (by decide) (by decide)).symm
        have m11573 := (m11544).trans (MF.r mf11569 (k := 30) (by decide) (by decide)).symm
        have m11574 := (m11545).trans (MF.r mf11569 (k := 31) (by decide) (by decide)).symm
        have m11575 := (m11546).trans (MF.r mf11569 (k := 24) (by decide) (by decide)).symm
        have m11576 := (MF.i mf11569 (k := 0) (by decide) (by decide)).trans m11547
        have m11577 := (MF.i mf11569 (k := 41) (by decide) (by decide)).trans m11548
        have m11578 := (MF.i mf11569 (k := 42) (by decide) (by decide)).trans m11549
        have m11579 := (MF.i mf11569 (k := 34) (by decide) (by decide)).trans m11550
        have m11580 := (MF.i mf11569 (k := 35) (by decide) (by decide)).trans m11552
        have m11581 := (MF.i mf11569 (k := 36) (by decide) (by decide)).trans m11553
        have m11582 := (eq11554).trans (MF.r mf11569 (k := 17) (by decide) (by decide)).symm
        have m11583 := (ex11558).trans (MF.i mf11569 (k := 18) (by decide) (by decide)).symm
        have bx11560 := ty_fi (x := x11560) (k := 19) ex11560 hTH11559 ga0 rg_112 rfl
        have bx11561 := ty_fi (x := x11561) (k := 20) ex11561 hTH11559 ga0 rg_112 rfl
        have bx11562 := ty_fi (x := x11562) (k := 21) ex11562 hTH11559 ga0 rg_112 rfl
        have bx11563 := ty_fi (x := x11563) (k := 22) ex11563 hTH11559 ga0 rg_112 rfl
        obtain ⟨r1H11559, r2H11559, r3H11559, r4H11559, r5H11559, r6H11559, r7H11559⟩ := hrH11559
        refine W.eq (g2 := F0 m 83 ls11481 []) rfl ?_
        refine lv_iload_n hx hb dX10_text_83 rfl (lv_at hl11482 0 rfl) ?_
        refine lv_if_eq (tgt := 94) hx hb dX10_text_84 (by decide) (fun c11584 => ?_) (fun c11584 => ?_)
        · have k11585 := i_eq c11584
          refine lv_iconst (v := (-1)) hx hb dX10_text_94 (by decide) ?_
          refine lv_istore (lv' := [(4, .int (-1)), (3, .int 0), (0, .ref a0), (1, .int x1), (2, .int x2)]) hx hb dX10_text_95 hl11482 (by decide) rfl (fun ls11586 hl11587 => ?_)
          refine lv_aload_n hx hb dX10_text_97 rfl (lv_at hl11587 2 rfl) ?_
          refine lv_iconst (v := 0) hx hb dX10_text_98 (by decide) ?_
          refine x_put C hTH11559 hSH11559 (ci := 10) (k := 18) (v := .int 0) (ty0 := tyX10) rfl inX10 tyX10_ok nmX10 (by decide) rfl wF_X10_185 ga0 rg_112 rfl rfl (okI (by have := i_rng (0 : Int32); omega) (by have := i_rng (0 : Int32); omega)) rfl rfl (AE_in ga0 (by decide)) dX10_text_99 (fun H11588 locsH11588 hTH11588 hSH11588 wH11588 => ?_)
          have g11589 : CG (avw K H11588 a0) := CG.congr (fun k hk j => av_fld hTH11559 ga0 hap wH11588 (by decide) (CG_ok 112 (by decide) k hk) (CG_ne 18 (by decide) k hk)) g11565
          have g11590 : TU (avw K H11588 a0) (svw K H11588 a0) := TU.congr (fun k hk j => av_fld hTH11559 ga0 hap wH11588 (by decide) (TU_ok 112 (by decide) k hk) (TU_ne 18 (by decide) k hk)) (fun k hk => sv_fld hap wH11588 (by decide) (TU_slt k hk) (TU_sne 18 (by decide) k hk)) g11566
          have g11591 : WD (avw K H11588 a0) := WD.congr (fun k hk j => av_fld hTH11559 ga0 hap wH11588 (by decide) (WD_ok 112 (by decide) k hk) (WD_ne 18 (by decide) k hk)) g11567
          have g11592 : IM (avw K H11588 a0) := IM.congr (fun k hk j => av_fld hTH11559 ga0 hap wH11588 (by decide) (IM_ok 112 (by decide) k hk) (IM_ne 18 (by decide) k hk)) g11568
          have m11593 := m11570.trans (Wr.neR wH11588 (Or.inr (x_apart hKT hts inX10 tyX10 tyX10_ok nmX10 rfl 32 18 (by decide) (by decide) (by decide)))).symm
          have m11594 := m11571.trans (Wr.neR wH11588 (Or.inr (x_apart hKT hts inX10 tyX10 tyX10_ok nmX10 rfl 33 18 (by decide) (by decide) (by decide)))).symm
          have m11595 := m11572.trans (Wr.neR wH11588 (Or.inr (x_apart hKT hts inX10 tyX10 tyX10_ok nmX10 rfl 29 18 (by decide) (by decide) (by decide)))).symm
          have m11596 := m11573.trans (Wr.neR wH11588 (Or.inr (x_apart hKT hts inX10 tyX10 tyX10_ok nmX10 rfl 30 18 (by decide) (by decide) (by decide)))).symm
          have m11597 := m11574.trans (Wr.neR wH11588 (Or.inr (x_apart hKT hts inX10 tyX10 tyX10_ok nmX10 rfl 31 18 (by decide) (by decide) (by decide)))).symm
          have m11598 := m11575.trans (Wr.neR wH11588 (Or.inr (x_apart hKT hts inX10 tyX10 tyX10_ok nmX10 rfl 24 18 (by decide) (by decide) (by decide)))).symm
          have m11599 := (Wr.neI wH11588 (Or.inr (x_apart hKT hts inX10 tyX10 tyX10_ok nmX10 rfl 0 18 (by decide) (by decide) (by decide)))).trans m11576
          have m11600 := (Wr.neI wH11588 (Or.inr (x_apart hKT hts inX10 tyX10 tyX10_ok nmX10 rfl 41 18 (by decide) (by decide) (by decide)))).trans m11577
          have m11601 := (Wr.neI wH11588 (Or.inr (x_apart hKT hts inX10 tyX10 tyX10_ok nmX10 rfl 42 18 (by decide) (by decide) (by decide)))).trans m11578
          have m11602 := (Wr.neI wH11588 (Or.inr (x_apart hKT hts inX10 tyX10 tyX10_ok nmX10 rfl 34 18 (by decide) (by decide) (by decide)))).trans m11579
          have m11603 := (Wr.neI wH11588 (Or.inr (x_apart hKT hts inX10 tyX10 tyX10_ok nmX10 rfl 35 18 (by decide) (by decide) (by decide)))).trans m11580
          have m11604 := (Wr.neI wH11588 (Or.inr (x_apart hKT hts inX10 tyX10 tyX10_ok nmX10 rfl 36 18 (by decide) (by decide) (by decide)))).trans m11581
          have m11605 := m11564.trans (Wr.neR wH11588 (Or.inr (x_apart hKT hts inX10 tyX10 tyX10_ok nmX10 rfl 17 18 (by decide) (by decide) (by decide)))).symm
          have m11607 := ex11560.trans (Wr.neI wH11588 (Or.inr (x_apart hKT hts inX10 tyX10 tyX10_ok nmX10 rfl 19 18 (by decide) (by decide) (by decide)))).symm
          have m11608 := ex11561.trans (Wr.neI wH11588 (Or.inr (x_apart hKT hts inX10 tyX10 tyX10_ok nmX10 rfl 20 18 (by decide) (by decide) (by decide)))).symm
          have m11609 := ex11562.trans (Wr.neI wH11588 (Or.inr (x_apart hKT hts inX10 tyX10 tyX10_ok nmX10 rfl 21 18 (by decide) (by decide) (by decide)))).symm
          have m11610 := ex11563.trans (Wr.neI wH11588 (Or.inr (x_apart hKT hts inX10 tyX10 tyX10_ok nmX10 rfl 22 18 (by decide) (by decide) (by decide)))).symm
          have m11611 := Wr.I wH11588
          clear ex11560 ex11561 ex11562 ex11563 g11565 g11566 g11567 g11568 hTH11559 m11564 m11570 m11571 m11572 m11573 m11574 m11575 m11576 m11577 m11578 m11579 m11580 m11581 m11583
          refine lv_iload_n hx hb dX10_text_102 rfl (lv_at hl11587 1 rfl) ?_
          refine lv_if_eq (tgt := 128) hx hb dX10_text_103 (by decide) (fun c11612 => ?_) (fun c11612 => ?_)
          · have k11613 := i_eq c11612
            refine lv_iload hx hb dX10_text_128 (lv_at hl11587 0 rfl) ?_
            refine lv_iconst (v := (-1)) hx hb dX10_text_130 (by decide) ?_
            refine lv_icmp_ne (tgt := 136) hx hb dX10_text_131 (by decide) (fun c11614 => ?_) (fun c11614 => ?_)
            · have k11615 := i_ne c11614
              exfalso
              omega
            · have k11615 := i_eq c11614
              refine lv_iconst (v := (-1)) hx hb dX10_text_134 (by decide) ?_
              exact x_iret C hQ dX10_text_135 hSH11588 (by decide) (by decide) (⟨(-1), 0, rfl, (m11603).symm, m11593, m11594, m11595, m11596, m11597, m11598, g11589, g11590, g11591, g11592, hTH11588⟩)
          · have k11613 := i_ne c11612
            exfalso
            omega
        · have k11585 := i_ne c11584
          exfalso
          omega
      · have k11484 := i_eq c11483
        refine lv_iconst (v := 1) hx hb dX10_text_56 (by decide) ?_
        refine lv_goto (tgt := 61) hx hb dX10_text_57 (by decide) ?_
        refine x_put C hTH11462 hSH11462 (ci := 10) (k := 34) (v := .int 1) (ty0 := tyX10) rfl inX10 tyX10_ok nmX10 (by decide) rfl wF_X10_231 ga0 rg_112 rfl rfl (okI (by have := i_rng (1 : Int32); omega) (by have := i_rng (1 : Int32); omega)) rfl rfl (AE_in ga0 (by decide)) dX10_text_61 (fun H11616 locsH11616 hTH11616 hSH11616 wH11616 => ?_)
        have g11617 : CG (avw K H11616 a0) := CG.congr (fun k hk j => av_fld hTH11462 ga0 hap wH11616 (by decide) (CG_ok 112 (by decide) k hk) (CG_ne 34 (by decide) k hk)) g11463
        have g11618 : TU (avw K H11616 a0) (svw K H11616 a0) := TU.congr (fun k hk j => av_fld hTH11462 ga0 hap wH11616 (by decide) (TU_ok 112 (by decide) k hk) (TU_ne 34 (by decide) k hk)) (fun k hk => sv_fld hap wH11616 (by decide) (TU_slt k hk) (TU_sne 34 (by decide) k hk)) g11464
        have g11619 : WD (avw K H11616 a0) := WD.congr (fun k hk j => av_fld hTH11462 ga0 hap wH11616 (by decide) (WD_ok 112 (by decide) k hk) (WD_ne 34 (by decide) k hk)) g11465
        have g11620 : IM (avw K H11616 a0) := IM.congr (fun k hk j => av_fld hTH11462 ga0 hap wH11616 (by decide) (IM_ok 112 (by decide) k hk) (IM_ne 34 (by decide) k hk)) g11466
        have m11621 := m11467.trans (Wr.neR wH11616 (Or.inr (x_apart hKT hts inX10 tyX10 tyX10_ok nmX10 rfl 32 34 (by decide) (by decide) (by decide)))).symm
        have m11622 := m11468.trans (Wr.neR wH11616 (Or.inr (x_apart hKT hts inX10 tyX10 tyX10_ok nmX10 rfl 33 34 (by decide) (by decide) (by decide)))).symm
        have m11623 := m11469.trans (Wr.neR wH11616 (Or.inr (x_apart hKT hts inX10 tyX10 tyX10_ok nmX10 rfl 29 34 (by decide) (by decide) (by decide)))).symm
        have m11624 := m11470.trans (Wr.neR wH11616 (Or.inr (x_apart hKT hts inX10 tyX10 tyX10_ok nmX10 rfl 30 34 (by decide) (by decide) (by decide)))).symm
        have m11625 := m11471.trans (Wr.neR wH11616 (Or.inr (x_apart hKT hts inX10 tyX10 tyX10_ok nmX10 rfl 31 34 (by decide) (by decide) (by decide)))).symm
        have m11626 := m11472.trans (Wr.neR wH11616 (Or.inr (x_apart hKT hts inX10 tyX10 tyX10_ok nmX10 rfl 24 34 (by decide) (by decide) (by decide)))).symm
        have m11627 := m11473.trans (Wr.neI wH11616 (Or.inr (x_apart hKT hts inX10 tyX10 tyX10_ok nmX10 rfl 35 34 (by decide) (by decide) (by decide)))).symm
        have m11628 := (Wr.neI wH11616 (Or.inr (x_apart hKT hts inX10 tyX10 tyX10_ok nmX10 rfl 0 34 (by decide) (by decide) (by decide)))).trans m11474
        have m11629 := (Wr.neI wH11616 (Or.inr (x_apart hKT hts inX10 tyX10 tyX10_ok nmX10 rfl 41 34 (by decide) (by decide) (by decide)))).trans m11475
        have m11630 := (Wr.neI wH11616 (Or.inr (x_apart hKT hts inX10 tyX10 tyX10_ok nmX10 rfl 42 34 (by decide) (by decide) (by decide)))).trans m11476
        have m11631 := Wr.I wH11616
        clear g11463 g11464 g11465 g11466 hTH11462 m11467 m11468 m11469 m11470 m11471 m11472 m11473 m11474 m11475 m11476
        refine lv_aload_n hx hb dX10_text_64 rfl (lv_at hl11482 1 rfl) ?_
        refine lv_iconst (v := 0) hx hb dX10_text_65 (by decide) ?_
        refine x_put C hTH11616 hSH11616 (ci := 10) (k := 19) (v := .int 0) (ty0 := tyX10) rfl inX10 tyX10_ok nmX10 (by decide) rfl wF_X10_192 ga0 rg_112 rfl rfl (okI (by have := i_rng (0 : Int32); omega) (by have := i_rng (0 : Int32); omega)) rfl rfl (AE_in ga0 (by decide)) dX10_text_66 (fun H11632 locsH11632 hTH11632 hSH11632 wH11632 => ?_)
        have g11633 : CG (avw K H11632 a0) := CG.congr (fun k hk j => av_fld hTH11616 ga0 hap wH11632 (by decide) (CG_ok 112 (by decide) k hk) (CG_ne 19 (by decide) k hk)) g11617
        have g11634 : TU (avw K H11632 a0) (svw K H11632 a0) := TU.congr (fun k hk j => av_fld hTH11616 ga0 hap wH11632 (by decide) (TU_ok 112 (by decide) k hk) (TU_ne 19 (by decide) k hk)) (fun k hk => sv_fld hap wH11632 (by decide) (TU_slt k hk) (TU_sne 19 (by decide) k hk)) g11618
        have g11635 : WD (avw K H11632 a0) := WD.congr (fun k hk j => av_fld hTH11616 ga0 hap wH11632 (by decide) (WD_ok 112 (by decide) k hk) (WD_ne 19 (by decide) k hk)) g11619
        have g11636 : IM (avw K H11632 a0) := IM.congr (fun k hk j => av_fld hTH11616 ga0 hap wH11632 (by decide) (IM_ok 112 (by decide) k hk) (IM_ne 19 (by decide) k hk)) g11620
        have m11637 := m11621.trans (Wr.neR wH11632 (Or.inr (x_apart hKT hts inX10 tyX10 tyX10_ok nmX10 rfl 32 19 (by decide) (by decide) (by decide)))).symm
        have m11638 := m11622.trans (Wr.neR wH11632 (Or.inr (x_apart hKT hts inX10 tyX10 tyX10_ok nmX10 rfl 33 19 (by decide) (by decide) (by decide)))).symm
        have m11639 := m11623.trans (Wr.neR wH11632 (Or.inr (x_apart hKT hts inX10 tyX10 tyX10_ok nmX10 rfl 29 19 (by decide) (by decide) (by decide)))).symm
        have m11640 := m11624.trans (Wr.neR wH11632 (Or.inr (x_apart hKT hts inX10 tyX10 tyX10_ok nmX10 rfl 30 19 (by decide) (by decide) (by decide)))).symm
        have m11641 := m11625.trans (Wr.neR wH11632 (Or.inr (x_apart hKT hts inX10 tyX10 tyX10_ok nmX10 rfl 31 19 (by decide) (by decide) (by decide)))).symm
        have m11642 := m11626.trans (Wr.neR wH11632 (Or.inr (x_apart hKT hts inX10 tyX10 tyX10_ok nmX10 rfl 24 19 (by decide) (by decide) (by decide)))).symm
        have m11643 := m11627.trans (Wr.neI wH11632 (Or.inr (x_apart hKT hts inX10 tyX10 tyX10_ok nmX10 rfl 35 19 (by decide) (by decide) (by decide)))).symm
        have m11644 := (Wr.neI wH11632 (Or.inr (x_apart hKT hts inX10 tyX10 tyX10_ok nmX10 rfl 0 19 (by decide) (by decide) (by decide)))).trans m11628
        have m11645 := (Wr.neI wH11632 (Or.inr (x_apart hKT hts inX10 tyX10 tyX10_ok nmX10 rfl 41 19 (by decide) (by decide) (by decide)))).trans m11629
        have m11646 := (Wr.neI wH11632 (Or.inr (x_apart hKT hts inX10 tyX10 tyX10_ok nmX10 rfl 42 19 (by decide) (by decide) (by decide)))).trans m11630
        have m11647 := (Wr.neI wH11632 (Or.inr (x_apart hKT hts inX10 tyX10 tyX10_ok nmX10 rfl 34 19 (by decide) (by decide) (by decide)))).trans m11631
        have m11648 := Wr.I wH11632
        clear g11617 g11618 g11619 g11620 hTH11616 m11621 m11622 m11623 m11624 m11625 m11626 m11627 m11628 m11629 m11630 m11631
        refine lv_aload_n hx hb dX10_text_69 rfl (lv_at hl11482 1 rfl) ?_
        refine lv_iconst (v := 0) hx hb dX10_text_70 (by decide) ?_
        refine x_put C hTH11632 hSH11632 (ci := 10) (k := 35) (v := .int 0) (ty0 := tyX10) rfl inX10 tyX10_ok nmX10 (by decide) rfl wF_X10_228 ga0 rg_112 rfl rfl (okI (by have := i_rng (0 : Int32); omega) (by have := i_rng (0 : Int32); omega)) rfl rfl (AE_in ga0 (by decide)) dX10_text_71 (fun H11649 locsH11649 hTH11649 hSH11649 wH11649 => ?_)
        have g11650 : CG (avw K H11649 a0) := CG.congr (fun k hk j => av_fld hTH11632 ga0 hap wH11649 (by decide) (CG_ok 112 (by decide) k hk) (CG_ne 35 (by decide) k hk)) g11633
        have g11651 : TU (avw K H11649 a0) (svw K H11649 a0) := TU.congr (fun k hk j => av_fld hTH11632 ga0 hap wH11649 (by decide) (TU_ok 112 (by decide) k hk) (TU_ne 35 (by decide) k hk)) (fun k hk => sv_fld hap wH11649 (by decide) (TU_slt k hk) (TU_sne 35 (by decide) k hk)) g11634
        have g11652 : WD (avw K H11649 a0) := WD.congr (fun k hk j => av_fld hTH11632 ga0 hap wH11649 (by decide) (WD_ok 112 (by decide) k hk) (WD_ne 35 (by decide) k hk)) g11635
        have g11653 : IM (avw K H11649 a0) := IM.congr (fun k hk j => av_fld hTH11632 ga0 hap wH11649 (by decide) (IM_ok 112 (by decide) k hk) (IM_ne 35 (by decide) k hk)) g11636
        have m11654 := m11637.trans (Wr.neR wH11649 (Or.inr (x_apart hKT hts inX10 tyX10 tyX10_ok nmX10 rfl 32 35 (by decide) (by decide) (by decide)))).symm
        have m11655 := m11638.trans (Wr.neR wH11649 (Or.inr (x_apart hKT hts inX10 tyX10 tyX10_ok nmX10 rfl 33 35 (by decide) (by decide) (by decide)))).symm
        have m11656 := m11639.trans (Wr.neR wH11649 (Or.inr (x_apart hKT hts inX10 tyX10 tyX10_ok nmX10 rfl 29 35 (by decide) (by decide) (by decide)))).symm
        have m11657 := m11640.trans (Wr.neR wH11649 (Or.inr (x_apart hKT hts inX10 tyX10 tyX10_ok nmX10 rfl 30 35 (by decide) (by decide) (by decide)))).symm
        have m11658 := m11641.trans (Wr.neR wH11649 (Or.inr (x_apart hKT hts inX10 tyX10 tyX10_ok nmX10 rfl 31 35 (by decide) (by decide) (by decide)))).symm
        have m11659 := m11642.trans (Wr.neR wH11649 (Or.inr (x_apart hKT hts inX10 tyX10 tyX10_ok nmX10 rfl 24 35 (by decide) (by decide) (by decide)))).symm
        have m11661 := (Wr.neI wH11649 (Or.inr (x_apart hKT hts inX10 tyX10 tyX10_ok nmX10 rfl 0 35 (by decide) (by decide) (by decide)))).trans m11644
        have m11662 := (Wr.neI wH11649 (Or.inr (x_apart hKT hts inX10 tyX10 tyX10_ok nmX10 rfl 41 35 (by decide) (by decide) (by decide)))).trans m11645
        have m11663 := (Wr.neI wH11649 (Or.inr (x_apart hKT hts inX10 tyX10 tyX10_ok nmX10 rfl 42 35 (by decide) (by decide) (by decide)))).trans m11646
        have m11664 := (Wr.neI wH11649 (Or.inr (x_apart hKT hts inX10 tyX10 tyX10_ok nmX10 rfl 34 35 (by decide) (by decide) (by decide)))).trans m11647
        have m11665 := (Wr.neI wH11649 (Or.inr (x_apart hKT hts inX10 tyX10 tyX10_ok nmX10 rfl 19 35 (by decide) (by decide) (by decide)))).trans m11648
        have m11666 := Wr.I wH11649
        clear g11633 g11634 g11635 g11636 hTH11632 m11637 m11638 m11639 m11640 m11641 m11642 m11643 m11644 m11645 m11646 m11647 m11648
        refine lv_aload_n hx hb dX10_text_74 rfl (lv_at hl11482 1 rfl) ?_
        refine lv_iconst (v := 0) hx hb dX10_text_75 (by decide) ?_
        refine x_put C hTH11649 hSH11649 (ci := 10) (k := 36) (v := .int 0) (ty0 := tyX10) rfl inX10 tyX10_ok nmX10 (by decide) rfl wF_X10_261 ga0 rg_112 rfl rfl (okI (by have := i_rng (0 : Int32); omega) (by have := i_rng (0 : Int32); omega)) rfl rfl (AE_in ga0 (by decide)) dX10_text_76 (fun H11667 locsH11667 hTH11667 hSH11667 wH11667 => ?_)
        have g11668 : CG (avw K H11667 a0) := CG.congr (fun k hk j => av_fld hTH11649 ga0 hap wH11667 (by decide) (CG_ok 112 (by decide) k hk) (CG_ne 36 (by decide) k hk)) g11650
        have g11669 : TU (avw K H11667 a0) (svw K H11667 a0) := TU.congr (fun k hk j => av_fld hTH11649 ga0 hap wH11667 (by decide) (TU_ok 112 (by decide) k hk) (TU_ne 36 (by decide) k hk)) (fun k hk => sv_fld hap wH11667 (by decide) (TU_slt k hk) (TU_sne 36 (by decide) k hk)) g11651
        have g11670 : WD (avw K H11667 a0) := WD.congr (fun k hk j => av_fld hTH11649 ga0 hap wH11667 (by decide) (WD_ok 112 (by decide) k hk) (WD_ne 36 (by decide) k hk)) g11652
        have g11671 : IM (avw K H11667 a0) := IM.congr (fun k hk j => av_fld hTH11649 ga0 hap wH11667 (by decide) (IM_ok 112 (by decide) k hk) (IM_ne 36 (by decide) k hk)) g11653
        have m11672 := m11654.trans (Wr.neR wH11667 (Or.inr (x_apart hKT hts inX10 tyX10 tyX10_ok nmX10 rfl 32 36 (by decide) (by decide) (by decide)))).symm
        have m11673 := m11655.trans (Wr.neR wH11667 (Or.inr (x_apart hKT hts inX10 tyX10 tyX10_ok nmX10 rfl 33 36 (by decide) (by decide) (by decide)))).symm
        have m11674 := m11656.trans (Wr.neR wH11667 (Or.inr (x_apart hKT hts inX10 tyX10 tyX10_ok nmX10 rfl 29 36 (by decide) (by decide) (by decide)))).symm
        have m11675 := m11657.trans (Wr.neR wH11667 (Or.inr (x_apart hKT hts inX10 tyX10 tyX10_ok nmX10 rfl 30 36 (by decide) (by decide) (by decide)))).symm
        have m11676 := m11658.trans (Wr.neR wH11667 (Or.inr (x_apart hKT hts inX10 tyX10 tyX10_ok nmX10 rfl 31 36 (by decide) (by decide) (by decide)))).symm
        have m11677 := m11659.trans (Wr.neR wH11667 (Or.inr (x_apart hKT hts inX10 tyX10 tyX10_ok nmX10 rfl 24 36 (by decide) (by decide) (by decide)))).symm
        have m11678 := (Wr.neI wH11667 (Or.inr (x_apart hKT hts inX10 tyX10 tyX10_ok nmX10 rfl 0 36 (by decide) (by decide) (by decide)))).trans m11661
        have m11679 := (Wr.neI wH11667 (Or.inr (x_apart hKT hts inX10 tyX10 tyX10_ok nmX10 rfl 41 36 (by decide) (by decide) (by decide)))).trans m11662
        have m11680 := (Wr.neI wH11667 (Or.inr (x_apart hKT hts inX10 tyX10 tyX10_ok nmX10 rfl 42 36 (by decide) (by decide) (by decide)))).trans m11663
        have m11681 := (Wr.neI wH11667 (Or.inr (x_apart hKT hts inX10 tyX10 tyX10_ok nmX10 rfl 34 36 (by decide) (by decide) (by decide)))).trans m11664
        have m11682 := (Wr.neI wH11667 (Or.inr (x_apart hKT hts inX10 tyX10 tyX10_ok nmX10 rfl 19 36 (by decide) (by decide) (by decide)))).trans m11665
        have m11683 := (Wr.neI wH11667 (Or.inr (x_apart hKT hts inX10 tyX10 tyX10_ok nmX10 rfl 35 36 (by decide) (by decide) (by decide)))).trans m11666
        have m11684 := Wr.I wH11667
        clear g11650 g11651 g11652 g11653 hTH11649 m11654 m11655 m11656 m11657 m11658 m11659 m11661 m11662 m11663 m11664 m11665 m11666
        refine lv_aload_n hx hb dX10_text_79 rfl (lv_at hl11482 1 rfl) ?_
        obtain ⟨q11685, eq11685⟩ : ∃ z : Nat, z = fR H11667 a0 (K.1.2 10 17) := ⟨_, rfl⟩
        have gq11685 := ty_fr (q := q11685) (k := 17) (u := 126) eq11685 hTH11667 ga0 rg_112 rfl
        obtain ⟨x11686, ex11686⟩ : ∃ z : Int32, z = fI H11667 a0 (K.1.2 10 20) := ⟨_, rfl⟩
        have bx11686 := ty_fi (x := x11686) (k := 20) ex11686 hTH11667 ga0 rg_112 rfl
        obtain ⟨x11687, ex11687⟩ : ∃ z : Int32, z = fI H11667 a0 (K.1.2 10 21) := ⟨_, rfl⟩
        have bx11687 := ty_fi (x := x11687) (k := 21) ex11687 hTH11667 ga0 rg_112 rfl
        obtain ⟨x11688, ex11688⟩ : ∃ z : Int32, z = fI H11667 a0 (K.1.2 10 22) := ⟨_, rfl⟩
        have bx11688 := ty_fi (x := x11688) (k := 22) ex11688 hTH11667 ga0 rg_112 rfl
        obtain ⟨x11689, ex11689⟩ : ∃ z : Int32, z = fI H11667 a0 (K.1.2 10 18) := ⟨_, rfl⟩
        have bx11689 := ty_fi (x := x11689) (k := 18) ex11689 hTH11667 ga0 rg_112 rfl
        refine x_V (As := []) (rest := []) C (a_X10_reads l K G H11667 (0) (x11686) (x11687) (x11688) (x11689) hTH11667 ga0 gq11685 eq11685 (m11682).symm ex11686 ex11687 ex11688 ex11689 g11668 g11669 g11670 g11671 (by and_intros <;> first | assumption | omega)) yo_X10_reads wM_X10_242 ⟨⟨by decide, by decide⟩, by decide, by decide⟩ (x_rv C hTH11667 (ci := 10) rfl ga0 rg_112) rfl hl11482.1 rfl (Nat.le_of_ble_eq_true rfl) dX10_text_80 hSH11667 (AE_sub (fun _ _ => rfl) (by decide) hSH11667.1) (fun vH11690 H11690 locsH11690 pH11690 zH11690 kH11690 hSH11690 => ?_)
        obtain ⟨x11691, x11692, x11693, x11694, hvH11690, ex11691, ex11692, ex11693, ex11694, hrH11690, m11695, g11696, g11697, g11698, g11699, mf11700, hTH11690⟩ := pH11690
        subst hvH11690
        have m11701 := (m11672).trans (MF.r mf11700 (k := 32) (by decide) (by decide)).symm
        have m11702 := (m11673).trans (MF.r mf11700 (k := 33) (by decide) (by decide)).symm
        have m11703 := (m11674).trans (MF.r mf11700 (k := 29) (by decide) (by decide)).symm
        have m11704 := (m11675).trans (MF.r mf11700 (k := 30) (by decide) (by decide)).symm
        have m11705 := (m11676).trans (MF.r mf11700 (k := 31) (by decide) (by decide)).symm
        have m11706 := (m11677).trans (MF.r mf11700 (k := 24) (by decide) (by decide)).symm
        have m11707 := (MF.i mf11700 (k := 0) (by decide) (by decide)).trans m11678
        have m11708 := (MF.i mf11700 (k := 41) (by decide) (by decide)).trans m11679
        have m11709 := (MF.i mf11700 (k := 42) (by decide) (by decide)).trans m11680
        have m11710 := (MF.i mf11700 (k := 34) (by decide) (by decide)).trans m11681
        have m11711 := (MF.i mf11700 (k := 35) (by decide) (by decide)).trans m11683
        have m11712 := (MF.i mf11700 (k := 36) (by decide) (by decide)).trans m11684
        have m11713 := (eq11685).trans (MF.r mf11700 (k := 17) (by decide) (by decide)).symm
        have m11714 := (ex11689).trans (MF.i mf11700 (k := 18) (by decide) (by decide)).symm
        have bx11691 := ty_fi (x := x11691) (k := 19) ex11691 hTH11690 ga0 rg_112 rfl
        have bx11692 := ty_fi (x := x11692) (k := 20) ex11692 hTH11690 ga0 rg_112 rfl
        have bx11693 := ty_fi (x := x11693) (k := 21) ex11693 hTH11690 ga0 rg_112 rfl
        have bx11694 := ty_fi (x := x11694) (k := 22) ex11694 hTH11690 ga0 rg_112 rfl
        obtain ⟨r1H11690, r2H11690, r3H11690, r4H11690, r5H11690, r6H11690, r7H11690⟩ := hrH11690
        refine W.eq (g2 := F0 m 83 ls11481 []) rfl ?_
        refine lv_iload_n hx hb dX10_text_83 rfl (lv_at hl11482 0 rfl) ?_
        refine lv_if_eq (tgt := 94) hx hb dX10_text_84 (by decide) (fun c11715 => ?_) (fun c11715 => ?_)
        · have k11716 := i_eq c11715
          refine lv_iconst (v := (-1)) hx hb dX10_text_94 (by decide) ?_
          refine lv_istore (lv' := [(4, .int (-1)), (3, .int 0), (0, .ref a0), (1, .int x1), (2, .int x2)]) hx hb dX10_text_95 hl11482 (by decide) rfl (fun ls11717 hl11718 => ?_)
          refine lv_aload_n hx hb dX10_text_97 rfl (lv_at hl11718 2 rfl) ?_
          refine lv_iconst (v := 0) hx hb dX10_text_98 (by decide) ?_
          refine x_put C hTH11690 hSH11690 (ci := 10) (k := 18) (v := .int 0) (ty0 := tyX10) rfl inX10 tyX10_ok nmX10 (by decide) rfl wF_X10_185 ga0 rg_112 rfl rfl (okI (by have := i_rng (0 : Int32); omega) (by have := i_rng (0 : Int32); omega)) rfl rfl (AE_in ga0 (by decide)) dX10_text_99 (fun H11719 locsH11719 hTH11719 hSH11719 wH11719 => ?_)
          have g11720 : CG (avw K H11719 a0) := CG.congr (fun k hk j => av_fld hTH11690 ga0 hap wH11719 (by decide) (CG_ok 112 (by decide) k hk) (CG_ne 18 (by decide) k hk)) g11696
          have g11721 : TU (avw K H11719 a0) (svw K H11719 a0) := TU.congr (fun k hk j => av_fld hTH11690 ga0 hap wH11719 (by decide) (TU_ok 112 (by decide) k hk) (TU_ne 18 (by decide) k hk)) (fun k hk => sv_fld hap wH11719 (by decide) (TU_slt k hk) (TU_sne 18 (by decide) k hk)) g11697
          have g11722 : WD (avw K H11719 a0) := WD.congr (fun k hk j => av_fld hTH11690 ga0 hap wH11719 (by decide) (WD_ok 112 (by decide) k hk) (WD_ne 18 (by decide) k hk)) g11698
          have g11723 : IM (avw K H11719 a0) := IM.congr (fun k hk j => av_fld hTH11690 ga0 hap wH11719 (by decide) (IM_ok 112 (by decide) k hk) (IM_ne 18 (by decide) k hk)) g11699
          have m11724 := m11701.trans (Wr.neR wH11719 (Or.inr (x_apart hKT hts inX10 tyX10 tyX10_ok nmX10 rfl 32 18 (by decide) (by decide) (by decide)))).symm
          have m11725 := m11702.trans (Wr.neR wH11719 (Or.inr (x_apart hKT hts inX10 tyX10 tyX10_ok nmX10 rfl 33 18 (by decide) (by decide) (by decide)))).symm
          have m11726 := m11703.trans (Wr.neR wH11719 (Or.inr (x_apart hKT hts inX10 tyX10 tyX10_ok nmX10 rfl 29 18 (by decide) (by decide) (by decide)))).symm
          have m11727 := m11704.trans (Wr.neR wH11719 (Or.inr (x_apart hKT hts inX10 tyX10 tyX10_ok nmX10 rfl 30 18 (by decide) (by decide) (by decide)))).symm
          have m11728 := m11705.trans (Wr.neR wH11719 (Or.inr (x_apart hKT hts inX10 tyX10 tyX10_ok nmX10 rfl 31 18 (by decide) (by decide) (by decide)))).symm
          have m11729 := m11706.trans (Wr.neR wH11719 (Or.inr (x_apart hKT hts inX10 tyX10 tyX10_ok nmX10 rfl 24 18 (by decide) (by decide) (by decide)))).symm
          have m11730 := (Wr.neI wH11719 (Or.inr (x_apart hKT hts inX10 tyX10 tyX10_ok nmX10 rfl 0 18 (by decide) (by decide) (by decide)))).trans m11707
          have m11731 := (Wr.neI wH11719 (Or.inr (x_apart hKT hts inX10 tyX10 tyX10_ok nmX10 rfl 41 18 (by decide) (by decide) (by decide)))).trans m11708
          have m11732 := (Wr.neI wH11719 (Or.inr (x_apart hKT hts inX10 tyX10 tyX10_ok nmX10 rfl 42 18 (by decide) (by decide) (by decide)))).trans m11709
          have m11733 := (Wr.neI wH11719 (Or.inr (x_apart hKT hts inX10 tyX10 tyX10_ok nmX10 rfl 34 18 (by decide) (by decide) (by decide)))).trans m11710
          have m11734 := (Wr.neI wH11719 (Or.inr (x_apart hKT hts inX10 tyX10 tyX10_ok nmX10 rfl 35 18 (by decide) (by decide) (by decide)))).trans m11711
          have m11735 := (Wr.neI wH11719 (Or.inr (x_apart hKT hts inX10 tyX10 tyX10_ok nmX10 rfl 36 18 (by decide) (by decide) (by decide)))).trans m11712
          have m11736 := m11695.trans (Wr.neR wH11719 (Or.inr (x_apart hKT hts inX10 tyX10 tyX10_ok nmX10 rfl 17 18 (by decide) (by decide) (by decide)))).symm
          have m11738 := ex11691.trans (Wr.neI wH11719 (Or.inr (x_apart hKT hts inX10 tyX10 tyX10_ok nmX10 rfl 19 18 (by decide) (by decide) (by decide)))).symm
          have m11739 := ex11692.trans (Wr.neI wH11719 (Or.inr (x_apart hKT hts inX10 tyX10 tyX10_ok nmX10 rfl 20 18 (by decide) (by decide) (by decide)))).symm
          have m11740 := ex11693.trans (Wr.neI wH11719 (Or.inr (x_apart hKT hts inX10 tyX10 tyX10_ok nmX10 rfl 21 18 (by decide) (by decide) (by decide)))).symm
          have m11741 := ex11694.trans (Wr.neI wH11719 (Or.inr (x_apart hKT hts inX10 tyX10 tyX10_ok nmX10 rfl 22 18 (by decide) (by decide) (by decide)))).symm
          have m11742 := Wr.I wH11719
          clear ex11691 ex11692 ex11693 ex11694 g11696 g11697 g11698 g11699 hTH11690 m11695 m11701 m11702 m11703 m11704 m11705 m11706 m11707 m11708 m11709 m11710 m11711 m11712 m11714
          refine lv_iload_n hx hb dX10_text_102 rfl (lv_at hl11718 1 rfl) ?_
          refine lv_if_eq (tgt := 128) hx hb dX10_text_103 (by decide) (fun c11743 => ?_) (fun c11743 => ?_)
          · have k11744 := i_eq c11743
            refine lv_iload hx hb dX10_text_128 (lv_at hl11718 0 rfl) ?_
            refine lv_iconst (v := (-1)) hx hb dX10_text_130 (by decide) ?_
            refine lv_icmp_ne (tgt := 136) hx hb dX10_text_131 (by decide) (fun c11745 => ?_) (fun c11745 => ?_)
            · have k11746 := i_ne c11745
              exfalso
              omega
            · have k11746 := i_eq c11745
              refine lv_iconst (v := (-1)) hx hb dX10_text_134 (by decide) ?_
              exact x_iret C hQ dX10_text_135 hSH11719 (by decide) (by decide) (⟨(-1), 0, rfl, (m11734).symm, m11724, m11725, m11726, m11727, m11728, m11729, g11720, g11721, g11722, g11723, hTH11719⟩)
          · have k11744 := i_ne c11743
            exfalso
            omega
        · have k11716 := i_ne c11715
          exfalso
          omega
    · have k11480 := i_eq c11479
      refine lv_aload_n hx hb dX10_text_34 rfl (lv_at hl 0 rfl) ?_
      refine lv_iload_n hx hb dX10_text_35 rfl (lv_at hl 2 rfl) ?_
      refine lv_iconst (v := 0) hx hb dX10_text_36 (by decide) ?_
      refine lv_iconst (v := 3) hx hb dX10_text_37 (by decide) ?_
      refine x_V (As := [.int x2, .int 0, .int 3]) (rest := []) C (c_X10_isIn l K G H11462 (x2) (0) (3) hTH11462 ga0) yo_X10_isIn wM_X10_177 ⟨⟨by decide, by decide⟩, by decide, by decide⟩ (x_rv C hTH11462 (ci := 10) rfl ga0 rg_112) rfl hl.1 rfl (Nat.le_of_ble_eq_true rfl) dX10_text_38 hSH11462 (AE_sub (fun _ _ => rfl) (by decide) hSH11462.1) (fun vH11747 H11747 locsH11747 pH11747 zH11747 kH11747 hSH11747 => ?_)
      have hqH11747 := pH11747.1.symm
      subst hqH11747
      rcases pH11747.2 with ⟨hvH11747, hcH11747⟩ | ⟨hvH11747, hcH11747⟩
      · subst hvH11747
        refine W.eq (g2 := F0 m 41 ls [.int 1]) rfl ?_
        refine lv_if_eq (tgt := 48) hx hb dX10_text_41 (by decide) (fun c11748 => ?_) (fun c11748 => ?_)
        · have k11749 := i_eq c11748
          exfalso
          omega
        · have k11749 := i_ne c11748
          refine lv_iconst (v := 1) hx hb dX10_text_44 (by decide) ?_
          refine lv_goto (tgt := 49) hx hb dX10_text_45 (by decide) ?_
          refine lv_istore_n (lv' := [(3, .int 1), (0, .ref a0), (1, .int x1), (2, .int x2)]) hx hb dX10_text_49 rfl hl (by decide) rfl (fun ls11750 hl11751 => ?_)
          refine lv_aload_n hx hb dX10_text_50 rfl (lv_at hl11751 1 rfl) ?_
          refine lv_iload_n hx hb dX10_text_51 rfl (lv_at hl11751 2 rfl) ?_
          refine lv_iconst (v := 1) hx hb dX10_text_52 (by decide) ?_
          refine lv_icmp_ne (tgt := 60) hx hb dX10_text_53 (by decide) (fun c11752 => ?_) (fun c11752 => ?_)
          · have k11753 := i_ne c11752
            exfalso
            omega
          · have k11753 := i_eq c11752
            refine lv_iconst (v := 1) hx hb dX10_text_56 (by decide) ?_
            refine lv_goto (tgt := 61) hx hb dX10_text_57 (by decide) ?_
            refine x_put C hTH11462 hSH11747 (ci := 10) (k := 34) (v := .int 1) (ty0 := tyX10) rfl inX10 tyX10_ok nmX10 (by decide) rfl wF_X10_231 ga0 rg_112 rfl rfl (okI (by have := i_rng (1 : Int32); omega) (by have := i_rng (1 : Int32); omega)) rfl rfl (AE_in ga0 (by decide)) dX10_text_61 (fun H11754 locsH11754 hTH11754 hSH11754 wH11754 => ?_)
            have g11755 : CG (avw K H11754 a0) := CG.congr (fun k hk j => av_fld hTH11462 ga0 hap wH11754 (by decide) (CG_ok 112 (by decide) k hk) (CG_ne 34 (by decide) k hk)) g11463
            have g11756 : TU (avw K H11754 a0) (svw K H11754 a0) := TU.congr (fun k hk j => av_fld hTH11462 ga0 hap wH11754 (by decide) (TU_ok 112 (by decide) k hk) (TU_ne 34 (by decide) k hk)) (fun k hk => sv_fld hap wH11754 (by decide) (TU_slt k hk) (TU_sne 34 (by decide) k hk)) g11464
            have g11757 : WD (avw K H11754 a0) := WD.congr (fun k hk j => av_fld hTH11462 ga0 hap wH11754 (by decide) (WD_ok 112 (by decide) k hk) (WD_ne 34 (by decide) k hk)) g11465
            have g11758 : IM (avw K H11754 a0) := IM.congr (fun k hk j => av_fld hTH11462 ga0 hap wH11754 (by decide) (IM_ok 112 (by decide) k hk) (IM_ne 34 (by decide) k hk)) g11466
            have m11759 := m11467.trans (Wr.neR wH11754 (Or.inr (x_apart hKT hts inX10 tyX10 tyX10_ok nmX10 rfl 32 34 (by decide) (by decide) (by decide)))).symm
            have m11760 := m11468.trans (Wr.neR wH11754 (Or.inr (x_apart hKT hts inX10 tyX10 tyX10_ok nmX10 rfl 33 34 (by decide) (by decide) (by decide)))).symm
            have m11761 := m11469.trans (Wr.neR wH11754 (Or.inr (x_apart hKT hts inX10 tyX10 tyX10_ok nmX10 rfl 29 34 (by decide) (by decide) (by decide)))).symm
            have m11762 := m11470.trans (Wr.neR wH11754 (Or.inr (x_apart hKT hts inX10 tyX10 tyX10_ok nmX10 rfl 30 34 (by decide) (by decide) (by decide)))).symm
            have m11763 := m11471.trans (Wr.neR wH11754 (Or.inr (x_apart hKT hts inX10 tyX10 tyX10_ok nmX10 rfl 31 34 (by decide) (by decide) (by decide)))).symm
            have m11764 := m11472.trans (Wr.neR wH11754 (Or.inr (x_apart hKT hts inX10 tyX10 tyX10_ok nmX10 rfl 24 34 (by decide) (by decide) (by decide)))).symm
            have m11765 := m11473.trans (Wr.neI wH11754 (Or.inr (x_apart hKT hts inX10 tyX10 tyX10_ok nmX10 rfl 35 34 (by decide) (by decide) (by decide)))).symm
            have m11766 := (Wr.neI wH11754 (Or.inr (x_apart hKT hts inX10 tyX10 tyX10_ok nmX10 rfl 0 34 (by decide) (by decide) (by decide)))).trans m11474
            have m11767 := (Wr.neI wH11754 (Or.inr (x_apart hKT hts inX10 tyX10 tyX10_ok nmX10 rfl 41 34 (by decide) (by decide) (by decide)))).trans m11475
            have m11768 := (Wr.neI wH11754 (Or.inr (x_apart hKT hts inX10 tyX10 tyX10_ok nmX10 rfl 42 34 (by decide) (by decide) (by decide)))).trans m11476
            have m11769 := Wr.I wH11754
            clear g11463 g11464 g11465 g11466 hTH11462 m11467 m11468 m11469 m11470 m11471 m11472 m11473 m11474 m11475 m11476
            refine lv_aload_n hx hb dX10_text_64 rfl (lv_at hl11751 1 rfl) ?_
            refine lv_iconst (v := 0) hx hb dX10_text_65 (by decide) ?_
            refine x_put C hTH11754 hSH11754 (ci := 10) (k := 19) (v := .int 0) (ty0 := tyX10) rfl inX10 tyX10_ok nmX10 (by decide) rfl wF_X10_192 ga0 rg_112 rfl rfl (okI (by have := i_rng (0 : Int32); omega) (by have := i_rng (0 : Int32); omega)) rfl rfl (AE_in ga0 (by decide)) dX10_text_66 (fun H11770 locsH11770 hTH11770 hSH11770 wH11770 => ?_)
            have g11771 : CG (avw K H11770 a0) := CG.congr (fun k hk j => av_fld hTH11754 ga0 hap wH11770 (by decide) (CG_ok 112 (by decide) k hk) (CG_ne 19 (by decide) k hk)) g11755
            have g11772 : TU (avw K H11770 a0) (svw K H11770 a0) := TU.congr (fun k hk j => av_fld hTH11754 ga0 hap wH11770 (by decide) (TU_ok 112 (by decide) k hk) (TU_ne 19 (by decide) k hk)) (fun k hk => sv_fld hap wH11770 (by decide) (TU_slt k hk) (TU_sne 19 (by decide) k hk)) g11756
            have g11773 : WD (avw K H11770 a0) := WD.congr (fun k hk j => av_fld hTH11754 ga0 hap wH11770 (by decide) (WD_ok 112 (by decide) k hk) (WD_ne 19 (by decide) k hk)) g11757
            have g11774 : IM (avw K H11770 a0) := IM.congr (fun k hk j => av_fld hTH11754 ga0 hap wH11770 (by decide) (IM_ok 112 (by decide) k hk) (IM_ne 19 (by decide) k hk)) g11758
            have m11775 := m11759.trans (Wr.neR wH11770 (Or.inr (x_apart hKT hts inX10 tyX10 tyX10_ok nmX10 rfl 32 19 (by decide) (by decide) (by decide)))).symm
            have m11776 := m11760.trans (Wr.neR wH11770 (Or.inr (x_apart hKT hts inX10 tyX10 tyX10_ok nmX10 rfl 33 19 (by decide) (by decide) (by decide)))).symm
            have m11777 := m11761.trans (Wr.neR wH11770 (Or.inr (x_apart hKT hts inX10 tyX10 tyX10_ok nmX10 rfl 29 19 (by decide) (by decide) (by decide)))).symm
            have m11778 := m11762.trans (Wr.neR wH11770 (Or.inr (x_apart hKT hts inX10 tyX10 tyX10_ok nmX10 rfl 30 19 (by decide) (by decide) (by decide)))).symm
            have m11779 := m11763.trans (Wr.neR wH11770 (Or.inr (x_apart hKT hts inX10 tyX10 tyX10_ok nmX10 rfl 31 19 (by decide) (by decide) (by decide)))).symm
            have m11780 := m11764.trans (Wr.neR wH11770 (Or.inr (x_apart hKT hts inX10 tyX10 tyX10_ok nmX10 rfl 24 19 (by decide) (by decide) (by decide)))).symm
            have m11781 := m11765.trans (Wr.neI wH11770 (Or.inr (x_apart hKT hts inX10 tyX10 tyX10_ok nmX10 rfl 35 19 (by decide) (by decide) (by decide)))).symm
            have m11782 := (Wr.neI wH11770 (Or.inr (x_apart hKT hts inX10 tyX10 tyX10_ok nmX10 rfl 0 19 (by decide) (by decide) (by decide)))).trans m11766
            have m11783 := (Wr.neI wH11770 (Or.inr (x_apart hKT hts inX10 tyX10 tyX10_ok nmX10 rfl 41 19 (by decide) (by decide) (by decide)))).trans m11767
            have m11784 := (Wr.neI wH11770 (Or.inr (x_apart hKT hts inX10 tyX10 tyX10_ok nmX10 rfl 42 19 (by decide) (by decide) (by decide)))).trans m11768
            have m11785 := (Wr.neI wH11770 (Or.inr (x_apart hKT hts inX10 tyX10 tyX10_ok nmX10 rfl 34 19 (by decide) (by decide) (by decide)))).trans m11769
            have m11786 := Wr.I wH11770
            clear g11755 g11756 g11757 g11758 hTH11754 m11759 m11760 m11761 m11762 m11763 m11764 m11765 m11766 m11767 m11768 m11769
            refine lv_aload_n hx hb dX10_text_69 rfl (lv_at hl11751 1 rfl) ?_
            refine lv_iconst (v := 0) hx hb dX10_text_70 (by decide) ?_
            refine x_put C hTH11770 hSH11770 (ci := 10) (k := 35) (v := .int 0) (ty0 := tyX10) rfl inX10 tyX10_ok nmX10 (by decide) rfl wF_X10_228 ga0 rg_112 rfl rfl (okI (by have := i_rng (0 : Int32); omega) (by have := i_rng (0 : Int32); omega)) rfl rfl (AE_in ga0 (by decide)) dX10_text_71 (fun H11787 locsH11787 hTH11787 hSH11787 wH11787 => ?_)
            have g11788 : CG (avw K H11787 a0) := CG.congr (fun k hk j => av_fld hTH11770 ga0 hap wH11787 (by decide) (CG_ok 112 (by decide) k hk) (CG_ne 35 (by decide) k hk)) g11771
            have g11789 : TU (avw K H11787 a0) (svw K H11787 a0) := TU.congr (fun k hk j => av_fld hTH11770 ga0 hap wH11787 (by decide) (TU_ok 112 (by decide) k hk) (TU_ne 35 (by decide) k hk)) (fun k hk => sv_fld hap wH11787 (by decide) (TU_slt k hk) (TU_sne 35 (by decide) k hk)) g11772
            have g11790 : WD (avw K H11787 a0) := WD.congr (fun k hk j => av_fld hTH11770 ga0 hap wH11787 (by decide) (WD_ok 112 (by decide) k hk) (WD_ne 35 (by decide) k hk)) g11773
            have g11791 : IM (avw K H11787 a0) := IM.congr (fun k hk j => av_fld hTH11770 ga0 hap wH11787 (by decide) (IM_ok 112 (by decide) k hk) (IM_ne 35 (by decide) k hk)) g11774
            have m11792 := m11775.trans (Wr.neR wH11787 (Or.inr (x_apart hKT hts inX10 tyX10 tyX10_ok nmX10 rfl 32 35 (by decide) (by decide) (by decide)))).symm
            have m11793 := m11776.trans (Wr.neR wH11787 (Or.inr (x_apart hKT hts inX10 tyX10 tyX10_ok nmX10 rfl 33 35 (by decide) (by decide) (by decide)))).symm
            have m11794 := m11777.trans (Wr.neR wH11787 (Or.inr (x_apart hKT hts inX10 tyX10 tyX10_ok nmX10 rfl 29 35 (by decide) (by decide) (by decide)))).symm
            have m11795 := m11778.trans (Wr.neR wH11787 (Or.inr (x_apart hKT hts inX10 tyX10 tyX10_ok nmX10 rfl 30 35 (by decide) (by decide) (by decide)))).symm
            have m11796 := m11779.trans (Wr.neR wH11787 (Or.inr (x_apart hKT hts inX10 tyX10 tyX10_ok nmX10 rfl 31 35 (by decide) (by decide) (by decide)))).symm
            have m11797 := m11780.trans (Wr.neR wH11787 (Or.inr (x_apart hKT hts inX10 tyX10 tyX10_ok nmX10 rfl 24 35 (by decide) (by decide) (by decide)))).symm
            have m11799 := (Wr.neI wH11787 (Or.inr (x_apart hKT hts inX10 tyX10 tyX10_ok nmX10 rfl 0 35 (by decide) (by decide) (by decide)))).trans m11782
            have m11800 := (Wr.neI wH11787 (Or.inr (x_apart hKT hts inX10 tyX10 tyX10_ok nmX10 rfl 41 35 (by decide) (by decide) (by decide)))).trans m11783
            have m11801 := (Wr.neI wH11787 (Or.inr (x_apart hKT hts inX10 tyX10 tyX10_ok nmX10 rfl 42 35 (by decide) (by decide) (by decide)))).trans m11784
            have m11802 := (Wr.neI wH11787 (Or.inr (x_apart hKT hts inX10 tyX10 tyX10_ok nmX10 rfl 34 35 (by decide) (by decide) (by decide)))).trans m11785
            have m11803 := (Wr.neI wH11787 (Or.inr (x_apart hKT hts inX10 tyX10 tyX10_ok nmX10 rfl 19 35 (by decide) (by decide) (by decide)))).trans m11786
            have m11804 := Wr.I wH11787
            clear g11771 g11772 g11773 g11774 hTH11770 m11775 m11776 m11777 m11778 m11779 m11780 m11781 m11782 m11783 m11784 m11785 m11786
            refine lv_aload_n hx hb dX10_text_74 rfl (lv_at hl11751 1 rfl) ?_
            refine lv_iconst (v := 0) hx hb dX10_text_75 (by decide) ?_
            refine x_put C hTH11787 hSH11787 (ci := 10) (k := 36) (v := .int 0) (ty0 := tyX10) rfl inX10 tyX10_ok nmX10 (by decide) rfl wF_X10_261 ga0 rg_112 rfl rfl (okI (by have := i_rng (0 : Int32); omega) (by have := i_rng (0 : Int32); omega)) rfl rfl (AE_in ga0 (by decide)) dX10_text_76 (fun H11805 locsH11805 hTH11805 hSH11805 wH11805 => ?_)
            have g11806 : CG (avw K H11805 a0) := CG.congr (fun k hk j => av_fld hTH11787 ga0 hap wH11805 (by decide) (CG_ok 112 (by decide) k hk) (CG_ne 36 (by decide) k hk)) g11788
            have g11807 : TU (avw K H11805 a0) (svw K H11805 a0) := TU.congr (fun k hk j => av_fld hTH11787 ga0 hap wH11805 (by decide) (TU_ok 112 (by decide) k hk) (TU_ne 36 (by decide) k hk)) (fun k hk => sv_fld hap wH11805 (by decide) (TU_slt k hk) (TU_sne 36 (by decide) k hk)) g11789
            have g11808 : WD (avw K H11805 a0) := WD.congr (fun k hk j => av_fld hTH11787 ga0 hap wH11805 (by decide) (WD_ok 112 (by decide) k hk) (WD_ne 36 (by decide) k hk)) g11790
            have g11809 : IM (avw K H11805 a0) := IM.congr (fun k hk j => av_fld hTH11787 ga0 hap wH11805 (by decide) (IM_ok 112 (by decide) k hk) (IM_ne 36 (by decide) k hk)) g11791
            have m11810 := m11792.trans (Wr.neR wH11805 (Or.inr (x_apart hKT hts inX10 tyX10 tyX10_ok nmX10 rfl 32 36 (by decide) (by decide) (by decide)))).symm
            have m11811 := m11793.trans (Wr.neR wH11805 (Or.inr (x_apart hKT hts inX10 tyX10 tyX10_ok nmX10 rfl 33 36 (by decide) (by decide) (by decide)))).symm
            have m11812 := m11794.trans (Wr.neR wH11805 (Or.inr (x_apart hKT hts inX10 tyX10 tyX10_ok nmX10 rfl 29 36 (by decide) (by decide) (by decide)))).symm
            have m11813 := m11795.trans (Wr.neR wH11805 (Or.inr (x_apart hKT hts inX10 tyX10 tyX10_ok nmX10 rfl 30 36 (by decide) (by decide) (by decide)))).symm
            have m11814 := m11796.trans (Wr.neR wH11805 (Or.inr (x_apart hKT hts inX10 tyX10 tyX10_ok nmX10 rfl 31 36 (by decide) (by decide) (by decide)))).symm
            have m11815 := m11797.trans (Wr.neR wH11805 (Or.inr (x_apart hKT hts inX10 tyX10 tyX10_ok nmX10 rfl 24 36 (by decide) (by decide) (by decide)))).symm
            have m11816 := (Wr.neI wH11805 (Or.inr (x_apart hKT hts inX10 tyX10 tyX10_ok nmX10 rfl 0 36 (by decide) (by decide) (by decide)))).trans m11799
            have m11817 := (Wr.neI wH11805 (Or.inr (x_apart hKT hts inX10 tyX10 tyX10_ok nmX10 rfl 41 36 (by decide) (by decide) (by decide)))).trans m11800
            have m11818 := (Wr.neI wH11805 (Or.inr (x_apart hKT hts inX10 tyX10 tyX10_ok nmX10 rfl 42 36 (by decide) (by decide) (by decide)))).trans m11801
            have m11819 := (Wr.neI wH11805 (Or.inr (x_apart hKT hts inX10 tyX10 tyX10_ok nmX10 rfl 34 36 (by decide) (by decide) (by decide)))).trans m11802
            have m11820 := (Wr.neI wH11805 (Or.inr (x_apart hKT hts inX10 tyX10 tyX10_ok nmX10 rfl 19 36 (by decide) (by decide) (by decide)))).trans m11803
            have m11821 := (Wr.neI wH11805 (Or.inr (x_apart hKT hts inX10 tyX10 tyX10_ok nmX10 rfl 35 36 (by decide) (by decide) (by decide)))).trans m11804
            have m11822 := Wr.I wH11805
            clear g11788 g11789 g11790 g11791 hTH11787 m11792 m11793 m11794 m11795 m11796 m11797 m11799 m11800 m11801 m11802 m11803 m11804
            refine lv_aload_n hx hb dX10_text_79 rfl (lv_at hl11751 1 rfl) ?_
            obtain ⟨q11823, eq11823⟩ : ∃ z : Nat, z = fR H11805 a0 (K.1.2 10 17) := ⟨_, rfl⟩
            have gq11823 := ty_fr (q := q11823) (k := 17) (u := 126) eq11823 hTH11805 ga0 rg_112 rfl
            obtain ⟨x11824, ex11824⟩ : ∃ z : Int32, z = fI H11805 a0 (K.1.2 10 20) := ⟨_, rfl⟩
            have bx11824 := ty_fi (x := x11824) (k := 20) ex11824 hTH11805 ga0 rg_112 rfl
            obtain ⟨x11825, ex11825⟩ : ∃ z : Int32, z = fI H11805 a0 (K.1.2 10 21) := ⟨_, rfl⟩
            have bx11825 := ty_fi (x := x11825) (k := 21) ex11825 hTH11805 ga0 rg_112 rfl
            obtain ⟨x11826, ex11826⟩ : ∃ z : Int32, z = fI H11805 a0 (K.1.2 10 22) := ⟨_, rfl⟩
            have bx11826 := ty_fi (x := x11826) (k := 22) ex11826 hTH11805 ga0 rg_112 rfl
            obtain ⟨x11827, ex11827⟩ : ∃ z : Int32, z = fI H11805 a0 (K.1.2 10 18) := ⟨_, rfl⟩
            have bx11827 := ty_fi (x := x11827) (k := 18) ex11827 hTH11805 ga0 rg_112 rfl
            refine x_V (As := []) (rest := []) C (a_X10_reads l K G H11805 (0) (x11824) (x11825) (x11826) (x11827) hTH11805 ga0 gq11823 eq11823 (m11820).symm ex11824 ex11825 ex11826 ex11827 g11806 g11807 g11808 g11809 (by and_intros <;> first | assumption | omega)) yo_X10_reads wM_X10_242 ⟨⟨by decide, by decide⟩, by decide, by decide⟩ (x_rv C hTH11805 (ci := 10) rfl ga0 rg_112) rfl hl11751.1 rfl (Nat.le_of_ble_eq_true rfl) dX10_text_80 hSH11805 (AE_sub (fun _ _ => rfl) (by decide) hSH11805.1) (fun vH11828 H11828 locsH11828 pH11828 zH11828 kH11828 hSH11828 => ?_)
            obtain ⟨x11829, x11830, x11831, x11832, hvH11828, ex11829, ex11830, ex11831, ex11832, hrH11828, m11833, g11834, g11835, g11836, g11837, mf11838, hTH11828⟩ := pH11828
            subst hvH11828
            have m11839 := (m11810).trans (MF.r mf11838 (k := 32) (by decide) (by decide)).symm
            have m11840 := (m11811).trans (MF.r mf11838 (k := 33) (by decide) (by decide)).symm
            have m11841 := (m11812).trans (MF.r mf11838 (k := 29) (by decide) (by decide)).symm
            have m11842 := (m11813).trans (MF.r mf11838 (k := 30) (by decide) (by decide)).symm
            have m11843 := (m11814).trans (MF.r mf11838 (k := 31) (by decide) (by decide)).symm
            have m11844 := (m11815).trans (MF.r mf11838 (k := 24) (by decide) (by decide)).symm
            have m11845 := (MF.i mf11838 (k := 0) (by decide) (by decide)).trans m11816
            have m11846 := (MF.i mf11838 (k := 41) (by decide) (by decide)).trans m11817
            have m11847 := (MF.i mf11838 (k := 42) (by decide) (by decide)).trans m11818
            have m11848 := (MF.i mf11838 (k := 34) (by decide) (by decide)).trans m11819
            have m11849 := (MF.i mf11838 (k := 35) (by decide) (by decide)).trans m11821
            have m11850 := (MF.i mf11838 (k := 36) (by decide) (by decide)).trans m11822
            have m11851 := (eq11823).trans (MF.r mf11838 (k := 17) (by decide) (by decide)).symm
            have m11852 := (ex11827).trans (MF.i mf11838 (k := 18) (by decide) (by decide)).symm
            have bx11829 := ty_fi (x := x11829) (k := 19) ex11829 hTH11828 ga0 rg_112 rfl
            have bx11830 := ty_fi (x := x11830) (k := 20) ex11830 hTH11828 ga0 rg_112 rfl
            have bx11831 := ty_fi (x := x11831) (k := 21) ex11831 hTH11828 ga0 rg_112 rfl
            have bx11832 := ty_fi (x := x11832) (k := 22) ex11832 hTH11828 ga0 rg_112 rfl
            obtain ⟨r1H11828, r2H11828, r3H11828, r4H11828, r5H11828, r6H11828, r7H11828⟩ := hrH11828
            refine W.eq (g2 := F0 m 83 ls11750 []) rfl ?_
            refine lv_iload_n hx hb dX10_text_83 rfl (lv_at hl11751 0 rfl) ?_
            refine lv_if_eq (tgt := 94) hx hb dX10_text_84 (by decide) (fun c11853 => ?_) (fun c11853 => ?_)
            · have k11854 := i_eq c11853
              exfalso
              omega
            · have k11854 := i_ne c11853
              refine lv_aload_n hx hb dX10_text_87 rfl (lv_at hl11751 1 rfl) ?_
              refine x_V (As := []) (rest := []) C (a_X10_readText l K G H11828 (x11829) (x11830) (x11831) (x11832) (0) (x11827) (1) hTH11828 ga0 goq m11839 gaq m11840 gf9 m11841 gf0 m11842 gf1 m11843 ex11829 ex11830 ex11831 ex11832 (m11849).symm m11852 (m11848).symm g11834 g11835 g11836 g11837 (by and_intros <;> first | assumption | omega) (by and_intros <;> first | assumption | omega)) yo_X10_readText wM_X10_295 ⟨⟨by decide, by decide⟩, by decide, by decide⟩ (x_rv C hTH11828 (ci := 10) rfl ga0 rg_112) rfl hl11751.1 rfl (Nat.le_of_ble_eq_true rfl) dX10_text_88 hSH11828 (AE_sub (fun _ _ => rfl) (by decide) hSH11828.1) (fun vH11855 H11855 locsH11855 pH11855 zH11855 kH11855 hSH11855 => ?_)
              obtain ⟨x11856, x11857, x11858, x11859, x11860, x11861, hvH11855, bx11856, ex11857, ex11858, ex11859, ex11860, ex11861, hrH11855, m11862, m11863, m11864, m11865, m11866, g11867, g11868, g11869, g11870, mf11871, m11872, hTH11855⟩ := pH11855
              subst hvH11855
              have m11873 := (m11839).trans (MF.r mf11871 (k := 32) (by decide) (by decide)).symm
              have m11874 := (m11840).trans (MF.r mf11871 (k := 33) (by decide) (by decide)).symm
              have m11875 := (m11841).trans (MF.r mf11871 (k := 29) (by decide) (by decide)).symm
              have m11876 := (m11842).trans (MF.r mf11871 (k := 30) (by decide) (by decide)).symm
              have m11877 := (m11843).trans (MF.r mf11871 (k := 31) (by decide) (by decide)).symm
              have m11878 := (m11844).trans (MF.r mf11871 (k := 24) (by decide) (by decide)).symm
              have m11879 := (MF.i mf11871 (k := 0) (by decide) (by decide)).trans m11845
              have m11880 := (MF.i mf11871 (k := 41) (by decide) (by decide)).trans m11846
              have m11881 := (MF.i mf11871 (k := 42) (by decide) (by decide)).trans m11847
              have m11882 := (MF.i mf11871 (k := 34) (by decide) (by decide)).trans m11848
              have m11883 := (m11833).trans (MF.r mf11871 (k := 17) (by decide) (by decide)).symm
              have m11884 := (m11852).trans (MF.i mf11871 (k := 18) (by decide) (by decide)).symm
              have bx11857 := ty_fi (x := x11857) (k := 19) ex11857 hTH11855 ga0 rg_112 rfl
              have bx11858 := ty_fi (x := x11858) (k := 20) ex11858 hTH11855 ga0 rg_112 rfl
              have bx11859 := ty_fi (x := x11859) (k := 21) ex11859 hTH11855 ga0 rg_112 rfl
              have bx11860 := ty_fi (x := x11860) (k := 22) ex11860 hTH11855 ga0 rg_112 rfl
              have bx11861 := ty_fi (x := x11861) (k := 35) ex11861 hTH11855 ga0 rg_112 rfl
              refine W.eq (g2 := F0 m 91 ls11750 [.int x11856]) rfl ?_
              refine lv_goto (tgt := 95) hx hb dX10_text_91 (by decide) ?_
              refine lv_istore (lv' := [(4, .int x11856), (3, .int 1), (0, .ref a0), (1, .int x1), (2, .int x2)]) hx hb dX10_text_95 hl11751 (by decide) rfl (fun ls11885 hl11886 => ?_)
              refine lv_aload_n hx hb dX10_text_97 rfl (lv_at hl11886 2 rfl) ?_
              refine lv_iconst (v := 0) hx hb dX10_text_98 (by decide) ?_
              refine x_put C hTH11855 hSH11855 (ci := 10) (k := 18) (v := .int 0) (ty0 := tyX10) rfl inX10 tyX10_ok nmX10 (by decide) rfl wF_X10_185 ga0 rg_112 rfl rfl (okI (by have := i_rng (0 : Int32); omega) (by have := i_rng (0 : Int32); omega)) rfl rfl (AE_in ga0 (by decide)) dX10_text_99 (fun H11887 locsH11887 hTH11887 hSH11887 wH11887 => ?_)
              have g11888 : CG (avw K H11887 a0) := CG.congr (fun k hk j => av_fld hTH11855 ga0 hap wH11887 (by decide) (CG_ok 112 (by decide) k hk) (CG_ne 18 (by decide) k hk)) g11867
              have g11889 : TU (avw K H11887 a0) (svw K H11887 a0) := TU.congr (fun k hk j => av_fld hTH11855 ga0 hap wH11887 (by decide) (TU_ok 112 (by decide) k hk) (TU_ne 18 (by decide) k hk)) (fun k hk => sv_fld hap wH11887 (by decide) (TU_slt k hk) (TU_sne 18 (by decide) k hk)) g11868
              have g11890 : WD (avw K H11887 a0) := WD.congr (fun k hk j => av_fld hTH11855 ga0 hap wH11887 (by decide) (WD_ok 112 (by decide) k hk) (WD_ne 18 (by decide) k hk)) g11869
              have g11891 : IM (avw K H11887 a0) := IM.congr (fun k hk j => av_fld hTH11855 ga0 hap wH11887 (by decide) (IM_ok 112 (by decide) k hk) (IM_ne 18 (by decide) k hk)) g11870
              have m11892 := m11862.trans (Wr.neR wH11887 (Or.inr (x_apart hKT hts inX10 tyX10 tyX10_ok nmX10 rfl 32 18 (by decide) (by decide) (by decide)))).symm
              have m11893 := m11863.trans (Wr.neR wH11887 (Or.inr (x_apart hKT hts inX10 tyX10 tyX10_ok nmX10 rfl 33 18 (by decide) (by decide) (by decide)))).symm
              have m11894 := m11864.trans (Wr.neR wH11887 (Or.inr (x_apart hKT hts inX10 tyX10 tyX10_ok nmX10 rfl 29 18 (by decide) (by decide) (by decide)))).symm
              have m11895 := m11865.trans (Wr.neR wH11887 (Or.inr (x_apart hKT hts inX10 tyX10 tyX10_ok nmX10 rfl 30 18 (by decide) (by decide) (by decide)))).symm
              have m11896 := m11866.trans (Wr.neR wH11887 (Or.inr (x_apart hKT hts inX10 tyX10 tyX10_ok nmX10 rfl 31 18 (by decide) (by decide) (by decide)))).symm
              have m11897 := m11878.trans (Wr.neR wH11887 (Or.inr (x_apart hKT hts inX10 tyX10 tyX10_ok nmX10 rfl 24 18 (by decide) (by decide) (by decide)))).symm
              have m11898 := (Wr.neI wH11887 (Or.inr (x_apart hKT hts inX10 tyX10 tyX10_ok nmX10 rfl 0 18 (by decide) (by decide) (by decide)))).trans m11879
              have m11899 := (Wr.neI wH11887 (Or.inr (x_apart hKT hts inX10 tyX10 tyX10_ok nmX10 rfl 41 18 (by decide) (by decide) (by decide)))).trans m11880
              have m11900 := (Wr.neI wH11887 (Or.inr (x_apart hKT hts inX10 tyX10 tyX10_ok nmX10 rfl 42 18 (by decide) (by decide) (by decide)))).trans m11881
              have m11901 := (Wr.neI wH11887 (Or.inr (x_apart hKT hts inX10 tyX10 tyX10_ok nmX10 rfl 34 18 (by decide) (by decide) (by decide)))).trans m11882
              have m11902 := m11883.trans (Wr.neR wH11887 (Or.inr (x_apart hKT hts inX10 tyX10 tyX10_ok nmX10 rfl 17 18 (by decide) (by decide) (by decide)))).symm
              have m11904 := ex11857.trans (Wr.neI wH11887 (Or.inr (x_apart hKT hts inX10 tyX10 tyX10_ok nmX10 rfl 19 18 (by decide) (by decide) (by decide)))).symm
              have m11905 := ex11858.trans (Wr.neI wH11887 (Or.inr (x_apart hKT hts inX10 tyX10 tyX10_ok nmX10 rfl 20 18 (by decide) (by decide) (by decide)))).symm
              have m11906 := ex11859.trans (Wr.neI wH11887 (Or.inr (x_apart hKT hts inX10 tyX10 tyX10_ok nmX10 rfl 21 18 (by decide) (by decide) (by decide)))).symm
              have m11907 := ex11860.trans (Wr.neI wH11887 (Or.inr (x_apart hKT hts inX10 tyX10 tyX10_ok nmX10 rfl 22 18 (by decide) (by decide) (by decide)))).symm
              have m11908 := ex11861.trans (Wr.neI wH11887 (Or.inr (x_apart hKT hts inX10 tyX10 tyX10_ok nmX10 rfl 35 18 (by decide) (by decide) (by decide)))).symm
              have m11909 := Wr.I wH11887
              clear ex11857 ex11858 ex11859 ex11860 ex11861 g11867 g11868 g11869 g11870 hTH11855 m11862 m11863 m11864 m11865 m11866 m11878 m11879 m11880 m11881 m11882 m11883 m11884
              refine lv_iload_n hx hb dX10_text_102 rfl (lv_at hl11886 1 rfl) ?_
              refine lv_if_eq (tgt := 128) hx hb dX10_text_103 (by decide) (fun c11910 => ?_) (fun c11910 => ?_)
              · have k11911 := i_eq c11910
                exfalso
                omega
              · have k11911 := i_ne c11910
                refine lv_iload hx hb dX10_text_106 (lv_at hl11886 0 rfl) ?_
                refine lv_iconst (v := (-1)) hx hb dX10_text_108 (by decide) ?_
                refine lv_icmp_ne (tgt := 128) hx hb dX10_text_109 (by decide) (fun c11912 => ?_) (fun c11912 => ?_)
                · have k11913 := i_ne c11912
                  refine lv_iload hx hb dX10_text_128 (lv_at hl11886 0 rfl) ?_
                  refine lv_iconst (v := (-1)) hx hb dX10_text_130 (by decide) ?_
                  refine lv_icmp_ne (tgt := 136) hx hb dX10_text_131 (by decide) (fun c11914 => ?_) (fun c11914 => ?_)
                  · have k11915 := i_ne c11914
                    refine lv_iload_n hx hb dX10_text_136 rfl (lv_at hl11886 3 rfl) ?_
                    refine lv_if_ne (tgt := 144) hx hb dX10_text_137 (by decide) (fun c11916 => ?_) (fun c11916 => ?_)
                    · have k11917 := i_ne c11916
                      refine lv_iconst (v := 2) hx hb dX10_text_144 (by decide) ?_
                      refine lv_iload_n hx hb dX10_text_145 rfl (lv_at hl11886 4 rfl) ?_
                      refine lv_iadd hx hb dX10_text_146 ?_
                      refine lv_topi (fun x11918 ex11918 => ?_)
                      have tx11918 := i_add ex11918 (by omega)
                      refine lv_istore (lv' := [(5, .int x11918), (4, .int x11856), (3, .int 1), (0, .ref a0), (1, .int x1), (2, .int x2)]) hx hb dX10_text_147 hl11886 (by decide) rfl (fun ls11919 hl11920 => ?_)
                      have hDL := m11872.resolve_left (by omega)
                      replace hDL := DL.congr (fun j => Wr.neI wH11887 (Or.inl (G_ne gf9 ga0 (by decide)))) (fun j => Wr.neI wH11887 (Or.inl (G_ne gf0 ga0 (by decide)))) (fun j => Wr.neI wH11887 (Or.inl (G_ne gf1 ga0 (by decide)))) (fun j => Wr.neI wH11887 (Or.inl (G_ne goq ga0 (by decide)))) (fun j => Wr.neI wH11887 (Or.inl (G_ne gaq ga0 (by decide)))) hDL
                      exact J149  ls11919 H11887 locsH11887 (x11856) (x11918) (x11861) (lv_sub hl11920 [3, 1, 0] rfl) hTH11887 hSH11887 ⟨by have := i_rng x11856; omega, by have := i_rng x11856; omega⟩ ⟨by have := i_rng x11918; omega, by have := i_rng x11918; omega⟩ ⟨by have := i_rng x11861; omega, by have := i_rng x11861; omega⟩ m11908 m11892 m11893 m11894 m11895 m11896 m11897 g11888 g11889 g11890 g11891 (DL.cast hDL (by omega) (by omega))
                    · have k11917 := i_eq c11916
                      exfalso
                      omega
                  · have k11915 := i_eq c11914
                    exfalso
                    omega
                · have k11913 := i_eq c11912
                  refine lv_aload_n hx hb dX10_text_112 rfl (lv_at hl11886 2 rfl) ?_
                  refine lv_aload_n hx hb dX10_text_113 rfl (lv_at hl11886 2 rfl) ?_
                  refine x_gi C hTH11887 (ci := 10) (k := 39) rfl inX10 (by decide) wF_X10_222 ga0 rg_112 rfl dX10_text_114 (fun x11921 ex11921 bx11921 => ?_)
                  refine x_put C hTH11887 hSH11887 (ci := 10) (k := 41) (v := .int x11921) (ty0 := tyX10) rfl inX10 tyX10_ok nmX10 (by decide) rfl wF_X10_292 ga0 rg_112 rfl rfl (okI (by have := i_rng x11921; omega) (by have := i_rng x11921; omega)) rfl rfl (AE_in ga0 (by decide)) dX10_text_117 (fun H11922 locsH11922 hTH11922 hSH11922 wH11922 => ?_)
                  have g11923 : CG (avw K H11922 a0) := CG.congr (fun k hk j => av_fld hTH11887 ga0 hap wH11922 (by decide) (CG_ok 112 (by decide) k hk) (CG_ne 41 (by decide) k hk)) g11888
                  have g11924 : TU (avw K H11922 a0) (svw K H11922 a0) := TU.congr (fun k hk j => av_fld hTH11887 ga0 hap wH11922 (by decide) (TU_ok 112 (by decide) k hk) (TU_ne 41 (by decide) k hk)) (fun k hk => sv_fld hap wH11922 (by decide) (TU_slt k hk) (TU_sne 41 (by decide) k hk)) g11889
                  have g11925 : WD (avw K H11922 a0) := WD.congr (fun k hk j => av_fld hTH11887 ga0 hap wH11922 (by decide) (WD_ok 112 (by decide) k hk) (WD_ne 41 (by decide) k hk)) g11890
                  have g11926 : IM (avw K H11922 a0) := IM.congr (fun k hk j => av_fld hTH11887 ga0 hap wH11922 (by decide) (IM_ok 112 (by decide) k hk) (IM_ne 41 (by decide) k hk)) g11891
                  have m11927 := m11892.trans (Wr.neR wH11922 (Or.inr (x_apart hKT hts inX10 tyX10 tyX10_ok nmX10 rfl 32 41 (by decide) (by decide) (by decide)))).symm
                  have m11928 := m11893.trans (Wr.neR wH11922 (Or.inr (x_apart hKT hts inX10 tyX10 tyX10_ok nmX10 rfl 33 41 (by decide) (by decide) (by decide)))).symm
                  have m11929 := m11894.trans (Wr.neR wH11922 (Or.inr (x_apart hKT hts inX10 tyX10 tyX10_ok nmX10 rfl 29 41 (by decide) (by decide) (by decide)))).symm
                  have m11930 := m11895.trans (Wr.neR wH11922 (Or.inr (x_apart hKT hts inX10 tyX10 tyX10_ok nmX10 rfl 30 41 (by decide) (by decide) (by decide)))).symm
                  have m11931 := m11896.trans (Wr.neR wH11922 (Or.inr (x_apart hKT hts inX10 tyX10 tyX10_ok nmX10 rfl 31 41 (by decide) (by decide) (by decide)))).symm
                  have m11932 := m11897.trans (Wr.neR wH11922 (Or.inr (x_apart hKT hts inX10 tyX10 tyX10_ok nmX10 rfl 24 41 (by decide) (by decide) (by decide)))).symm
                  have m11933 := (Wr.neI wH11922 (Or.inr (x_apart hKT hts inX10 tyX10 tyX10_ok nmX10 rfl 0 41 (by decide) (by decide) (by decide)))).trans m11898
                  have m11935 := (Wr.neI wH11922 (Or.inr (x_apart hKT hts inX10 tyX10 tyX10_ok nmX10 rfl 42 41 (by decide) (by decide) (by decide)))).trans m11900
                  have m11936 := (Wr.neI wH11922 (Or.inr (x_apart hKT hts inX10 tyX10 tyX10_ok nmX10 rfl 34 41 (by decide) (by decide) (by decide)))).trans m11901
                  have m11937 := m11902.trans (Wr.neR wH11922 (Or.inr (x_apart hKT hts inX10 tyX10 tyX10_ok nmX10 rfl 17 41 (by decide) (by decide) (by decide)))).symm
                  have m11938 := m11904.trans (Wr.neI wH11922 (Or.inr (x_apart hKT hts inX10 tyX10 tyX10_ok nmX10 rfl 19 41 (by decide) (by decide) (by decide)))).symm
                  have m11939 := m11905.trans (Wr.neI wH11922 (Or.inr (x_apart hKT hts inX10 tyX10 tyX10_ok nmX10 rfl 20 41 (by decide) (by decide) (by decide)))).symm
                  have m11940 := m11906.trans (Wr.neI wH11922 (Or.inr (x_apart hKT hts inX10 tyX10 tyX10_ok nmX10 rfl 21 41 (by decide) (by decide) (by decide)))).symm
                  have m11941 := m11907.trans (Wr.neI wH11922 (Or.inr (x_apart hKT hts inX10 tyX10 tyX10_ok nmX10 rfl 22 41 (by decide) (by decide) (by decide)))).symm
                  have m11942 := m11908.trans (Wr.neI wH11922 (Or.inr (x_apart hKT hts inX10 tyX10 tyX10_ok nmX10 rfl 35 41 (by decide) (by decide) (by decide)))).symm
                  have m11943 := (Wr.neI wH11922 (Or.inr (x_apart hKT hts inX10 tyX10 tyX10_ok nmX10 rfl 18 41 (by decide) (by decide) (by decide)))).trans m11909
                  have m11944 := ex11921.trans (Wr.neI wH11922 (Or.inr (x_apart hKT hts inX10 tyX10 tyX10_ok nmX10 rfl 39 41 (by decide) (by decide) (by decide)))).symm
                  have m11945 := Wr.I wH11922
                  have m11945 := m11945.symm
                  clear ex11921 g11888 g11889 g11890 g11891 hTH11887 m11892 m11893 m11894 m11895 m11896 m11897 m11898 m11899 m11900 m11901 m11902 m11904 m11905 m11906 m11907 m11908 m11909
                  refine lv_aload_n hx hb dX10_text_120 rfl (lv_at hl11886 2 rfl) ?_
                  refine lv_aload_n hx hb dX10_text_121 rfl (lv_at hl11886 2 rfl) ?_
                  refine x_gi C hTH11922 (ci := 10) (k := 40) rfl inX10 (by decide) wF_X10_225 ga0 rg_112 rfl dX10_text_122 (fun x11946 ex11946 bx11946 => ?_)
                  refine x_put C hTH11922 hSH11922 (ci := 10) (k := 42) (v := .int x11946) (ty0 := tyX10) rfl inX10 tyX10_ok nmX10 (by decide) rfl wF_X10_92 ga0 rg_112 rfl rfl (okI (by have := i_rng x11946; omega) (by have := i_rng x11946; omega)) rfl rfl (AE_in ga0 (by decide)) dX10_text_125 (fun H11947 locsH11947 hTH11947 hSH11947 wH11947 => ?_)
                  have g11948 : CG (avw K H11947 a0) := CG.congr (fun k hk j => av_fld hTH11922 ga0 hap wH11947 (by decide) (CG_ok 112 (by decide) k hk) (CG_ne 42 (by decide) k hk)) g11923
                  have g11949 : TU (avw K H11947 a0) (svw K H11947 a0) := TU.congr (fun k hk j => av_fld hTH11922 ga0 hap wH11947 (by decide) (TU_ok 112 (by decide) k hk) (TU_ne 42 (by decide) k hk)) (fun k hk => sv_fld hap wH11947 (by decide) (TU_slt k hk) (TU_sne 42 (by decide) k hk)) g11924
                  have g11950 : WD (avw K H11947 a0) := WD.congr (fun k hk j => av_fld hTH11922 ga0 hap wH11947 (by decide) (WD_ok 112 (by decide) k hk) (WD_ne 42 (by decide) k hk)) g11925
                  have g11951 : IM (avw K H11947 a0) := IM.congr (fun k hk j => av_fld hTH11922 ga0 hap wH11947 (by decide) (IM_ok 112 (by decide) k hk) (IM_ne 42 (by decide) k hk)) g11926
                  have m11952 := m11927.trans (Wr.neR wH11947 (Or.inr (x_apart hKT hts inX10 tyX10 tyX10_ok nmX10 rfl 32 42 (by decide) (by decide) (by decide)))).symm
                  have m11953 := m11928.trans (Wr.neR wH11947 (Or.inr (x_apart hKT hts inX10 tyX10 tyX10_ok nmX10 rfl 33 42 (by decide) (by decide) (by decide)))).symm
                  have m11954 := m11929.trans (Wr.neR wH11947 (Or.inr (x_apart hKT hts inX10 tyX10 tyX10_ok nmX10 rfl 29 42 (by decide) (by decide) (by decide)))).symm
                  have m11955 := m11930.trans (Wr.neR wH11947 (Or.inr (x_apart hKT hts inX10 tyX10 tyX10_ok nmX10 rfl 30 42 (by decide) (by decide) (by decide)))).symm
                  have m11956 := m11931.trans (Wr.neR wH11947 (Or.inr (x_apart hKT hts inX10 tyX10 tyX10_ok nmX10 rfl 31 42 (by decide) (by decide) (by decide)))).symm
                  have m11957 := m11932.trans (Wr.neR wH11947 (Or.inr (x_apart hKT hts inX10 tyX10 tyX10_ok nmX10 rfl 24 42 (by decide) (by decide) (by decide)))).symm
                  have m11958 := (Wr.neI wH11947 (Or.inr (x_apart hKT hts inX10 tyX10 tyX10_ok nmX10 rfl 0 42 (by decide) (by decide) (by decide)))).trans m11933
                  have m11960 := (Wr.neI wH11947 (Or.inr (x_apart hKT hts inX10 tyX10 tyX10_ok nmX10 rfl 34 42 (by decide) (by decide) (by decide)))).trans m11936
                  have m11961 := m11937.trans (Wr.neR wH11947 (Or.inr (x_apart hKT hts inX10 tyX10 tyX10_ok nmX10 rfl 17 42 (by decide) (by decide) (by decide)))).symm
                  have m11962 := m11938.trans (Wr.neI wH11947 (Or.inr (x_apart hKT hts inX10 tyX10 tyX10_ok nmX10 rfl 19 42 (by decide) (by decide) (by decide)))).symm
                  have m11963 := m11939.trans (Wr.neI wH11947 (Or.inr (x_apart hKT hts inX10 tyX10 tyX10_ok nmX10 rfl 20 42 (by decide) (by decide) (by decide)))).symm
                  have m11964 := m11940.trans (Wr.neI wH11947 (Or.inr (x_apart hKT hts inX10 tyX10 tyX10_ok nmX10 rfl 21 42 (by decide) (by decide) (by decide)))).symm
                  have m11965 := m11941.trans (Wr.neI wH11947 (Or.inr (x_apart hKT hts inX10 tyX10 tyX10_ok nmX10 rfl 22 42 (by decide) (by decide) (by decide)))).symm
                  have m11966 := m11942.trans (Wr.neI wH11947 (Or.inr (x_apart hKT hts inX10 tyX10 tyX10_ok nmX10 rfl 35 42 (by decide) (by decide) (by decide)))).symm
                  have m11967 := (Wr.neI wH11947 (Or.inr (x_apart hKT hts inX10 tyX10 tyX10_ok nmX10 rfl 18 42 (by decide) (by decide) (by decide)))).trans m11943
                  have m11968 := m11944.trans (Wr.neI wH11947 (Or.inr (x_apart hKT hts inX10 tyX10 tyX10_ok nmX10 rfl 39 42 (by decide) (by decide) (by decide)))).symm
                  have m11969 := m11945.trans (Wr.neI wH11947 (Or.inr (x_apart hKT hts inX10 tyX10 tyX10_ok nmX10 rfl 41 42 (by decide) (by decide) (by decide)))).symm
                  have m11970 := ex11946.trans (Wr.neI wH11947 (Or.inr (x_apart hKT hts inX10 tyX10 tyX10_ok nmX10 rfl 40 42 (by decide) (by decide) (by decide)))).symm
                  have m11971 := Wr.I wH11947
                  have m11971 := m11971.symm
                  clear ex11946 g11923 g11924 g11925 g11926 hTH11922 m11927 m11928 m11929 m11930 m11931 m11932 m11933 m11935 m11936 m11937 m11938 m11939 m11940 m11941 m11942 m11943 m11944 m11945
                  refine lv_iload hx hb dX10_text_128 (lv_at hl11886 0 rfl) ?_
                  refine lv_iconst (v := (-1)) hx hb dX10_text_130 (by decide) ?_
                  refine lv_icmp_ne (tgt := 136) hx hb dX10_text_131 (by decide) (fun c11972 => ?_) (fun c11972 => ?_)
                  · have k11973 := i_ne c11972
                    exfalso
                    omega
                  · have k11973 := i_eq c11972
                    refine lv_iconst (v := (-1)) hx hb dX10_text_134 (by decide) ?_
                    exact x_iret C hQ dX10_text_135 hSH11947 (by decide) (by decide) (⟨(-1), x11861, rfl, m11966, m11952, m11953, m11954, m11955, m11956, m11957, g11948, g11949, g11950, g11951, hTH11947⟩)
      · subst hvH11747
        refine W.eq (g2 := F0 m 41 ls [.int 0]) rfl ?_
        refine lv_if_eq (tgt := 48) hx hb dX10_text_41 (by decide) (fun c11974 => ?_) (fun c11974 => ?_)
        · have k11975 := i_eq c11974
          refine lv_iconst (v := 0) hx hb dX10_text_48 (by decide) ?_
          refine lv_istore_n (lv' := [(3, .int 0), (0, .ref a0), (1, .int x1), (2, .int x2)]) hx hb dX10_text_49 rfl hl (by decide) rfl (fun ls11976 hl11977 => ?_)
          refine lv_aload_n hx hb dX10_text_50 rfl (lv_at hl11977 1 rfl) ?_
          refine lv_iload_n hx hb dX10_text_51 rfl (lv_at hl11977 2 rfl) ?_
          refine lv_iconst (v := 1) hx hb dX10_text_52 (by decide) ?_
          refine lv_icmp_ne (tgt := 60) hx hb dX10_text_53 (by decide) (fun c11978 => ?_) (fun c11978 => ?_)
          · have k11979 := i_ne c11978
            exfalso
            omega
          · have k11979 := i_eq c11978
            refine lv_iconst (v := 1) hx hb dX10_text_56 (by decide) ?_
            refine lv_goto (tgt := 61) hx hb dX10_text_57 (by decide) ?_
            refine x_put C hTH11462 hSH11747 (ci := 10) (k := 34) (v := .int 1) (ty0 := tyX10) rfl inX10 tyX10_ok nmX10 (by decide) rfl wF_X10_231 ga0 rg_112 rfl rfl (okI (by have := i_rng (1 : Int32); omega) (by have := i_rng (1 : Int32); omega)) rfl rfl (AE_in ga0 (by decide)) dX10_text_61 (fun H11980 locsH11980 hTH11980 hSH11980 wH11980 => ?_)
            have g11981 : CG (avw K H11980 a0) := CG.congr (fun k hk j => av_fld hTH11462 ga0 hap wH11980 (by decide) (CG_ok 112 (by decide) k hk) (CG_ne 34 (by decide) k hk)) g11463
            have g11982 : TU (avw K H11980 a0) (svw K H11980 a0) := TU.congr (fun k hk j => av_fld hTH11462 ga0 hap wH11980 (by decide) (TU_ok 112 (by decide) k hk) (TU_ne 34 (by decide) k hk)) (fun k hk => sv_fld hap wH11980 (by decide) (TU_slt k hk) (TU_sne 34 (by decide) k hk)) g11464
            have g11983 : WD (avw K H11980 a0) := WD.congr (fun k hk j => av_fld hTH11462 ga0 hap wH11980 (by decide) (WD_ok 112 (by decide) k hk) (WD_ne 34 (by decide) k hk)) g11465
            have g11984 : IM (avw K H11980 a0) := IM.congr (fun k hk j => av_fld hTH11462 ga0 hap wH11980 (by decide) (IM_ok 112 (by decide) k hk) (IM_ne 34 (by decide) k hk)) g11466
            have m11985 := m11467.trans (Wr.neR wH11980 (Or.inr (x_apart hKT hts inX10 tyX10 tyX10_ok nmX10 rfl 32 34 (by decide) (by decide) (by decide)))).symm
            have m11986 := m11468.trans (Wr.neR wH11980 (Or.inr (x_apart hKT hts inX10 tyX10 tyX10_ok nmX10 rfl 33 34 (by decide) (by decide) (by decide)))).symm
            have m11987 := m11469.trans (Wr.neR wH11980 (Or.inr (x_apart hKT hts inX10 tyX10 tyX10_ok nmX10 rfl 29 34 (by decide) (by decide) (by decide)))).symm
            have m11988 := m11470.trans (Wr.neR wH11980 (Or.inr (x_apart hKT hts inX10 tyX10 tyX10_ok nmX10 rfl 30 34 (by decide) (by decide) (by decide)))).symm
            have m11989 := m11471.trans (Wr.neR wH11980 (Or.inr (x_apart hKT hts inX10 tyX10 tyX10_ok nmX10 rfl 31 34 (by decide) (by decide) (by decide)))).symm
            have m11990 := m11472.trans (Wr.neR wH11980 (Or.inr (x_apart hKT hts inX10 tyX10 tyX10_ok nmX10 rfl 24 34 (by decide) (by decide) (by decide)))).symm
            have m11991 := m11473.trans (Wr.neI wH11980 (Or.inr (x_apart hKT hts inX10 tyX10 tyX10_ok nmX10 rfl 35 34 (by decide) (by decide) (by decide)))).symm
            have m11992 := (Wr.neI wH11980 (Or.inr (x_apart hKT hts inX10 tyX10 tyX10_ok nmX10 rfl 0 34 (by decide) (by decide) (by decide)))).trans m11474
            have m11993 := (Wr.neI wH11980 (Or.inr (x_apart hKT hts inX10 tyX10 tyX10_ok nmX10 rfl 41 34 (by decide) (by decide) (by decide)))).trans m11475
            have m11994 := (Wr.neI wH11980 (Or.inr (x_apart hKT hts inX10 tyX10 tyX10_ok nmX10 rfl 42 34 (by decide) (by decide) (by decide)))).trans m11476
            have m11995 := Wr.I wH11980
            clear g11463 g11464 g11465 g11466 hTH11462 m11467 m11468 m11469 m11470 m11471 m11472 m11473 m11474 m11475 m11476
            refine lv_aload_n hx hb dX10_text_64 rfl (lv_at hl11977 1 rfl) ?_
            refine lv_iconst (v := 0) hx hb dX10_text_65 (by decide) ?_
            refine x_put C hTH11980 hSH11980 (ci := 10) (k := 19) (v := .int 0) (ty0 := tyX10) rfl inX10 tyX10_ok nmX10 (by decide) rfl wF_X10_192 ga0 rg_112 rfl rfl (okI (by have := i_rng (0 : Int32); omega) (by have := i_rng (0 : Int32); omega)) rfl rfl (AE_in ga0 (by decide)) dX10_text_66 (fun H11996 locsH11996 hTH11996 hSH11996 wH11996 => ?_)
            have g11997 : CG (avw K H11996 a0) := CG.congr (fun k hk j => av_fld hTH11980 ga0 hap wH11996 (by decide) (CG_ok 112 (by decide) k hk) (CG_ne 19 (by decide) k hk)) g11981
            have g11998 : TU (avw K H11996 a0) (svw K H11996 a0) := TU.congr (fun k hk j => av_fld hTH11980 ga0 hap wH11996 (by decide) (TU_ok 112 (by decide) k hk) (TU_ne 19 (by decide) k hk)) (fun k hk => sv_fld hap wH11996 (by decide) (TU_slt k hk) (TU_sne 19 (by decide) k hk)) g11982
            have g11999 : WD (avw K H11996 a0) := WD.congr (fun k hk j => av_fld hTH11980 ga0 hap wH11996 (by decide) (WD_ok 112 (by decide) k hk) (WD_ne 19 (by decide) k hk)) g11983
            have g12000 : IM (avw K H11996 a0) := IM.congr (fun k hk j => av_fld hTH11980 ga0 hap wH11996 (by decide) (IM_ok 112 (by decide) k hk) (IM_ne 19 (by decide) k hk)) g11984
            have m12001 := m11985.trans (Wr.neR wH11996 (Or.inr (x_apart hKT hts inX10 tyX10 tyX10_ok nmX10 rfl 32 19 (by decide) (by decide) (by decide)))).symm
            have m12002 := m11986.trans (Wr.neR wH11996 (Or.inr (x_apart hKT hts inX10 tyX10 tyX10_ok nmX10 rfl 33 19 (by decide) (by decide) (by decide)))).symm
            have m12003 := m11987.trans (Wr.neR wH11996 (Or.inr (x_apart hKT hts inX10 tyX10 tyX10_ok nmX10 rfl 29 19 (by decide) (by decide) (by decide)))).symm
            have m12004 := m11988.trans (Wr.neR wH11996 (Or.inr (x_apart hKT hts inX10 tyX10 tyX10_ok nmX10 rfl 30 19 (by decide) (by decide) (by decide)))).symm
            have m12005 := m11989.trans (Wr.neR wH11996 (Or.inr (x_apart hKT hts inX10 tyX10 tyX10_ok nmX10 rfl 31 19 (by decide) (by decide) (by decide)))).symm
            have m12006 := m11990.trans (Wr.neR wH11996 (Or.inr (x_apart hKT hts inX10 tyX10 tyX10_ok nmX10 rfl 24 19 (by decide) (by decide) (by decide)))).symm
            have m12007 := m11991.trans (Wr.neI wH11996 (Or.inr (x_apart hKT hts inX10 tyX10 tyX10_ok nmX10 rfl 35 19 (by decide) (by decide) (by decide)))).symm
            have m12008 := (Wr.neI wH11996 (Or.inr (x_apart hKT hts inX10 tyX10 tyX10_ok nmX10 rfl 0 19 (by decide) (by decide) (by decide)))).trans m11992
            have m12009 := (Wr.neI wH11996 (Or.inr (x_apart hKT hts inX10 tyX10 tyX10_ok nmX10 rfl 41 19 (by decide) (by decide) (by decide)))).trans m11993
            have m12010 := (Wr.neI wH11996 (Or.inr (x_apart hKT hts inX10 tyX10 tyX10_ok nmX10 rfl 42 19 (by decide) (by decide) (by decide)))).trans m11994
            have m12011 := (Wr.neI wH11996 (Or.inr (x_apart hKT hts inX10 tyX10 tyX10_ok nmX10 rfl 34 19 (by decide) (by decide) (by decide)))).trans m11995
            have m12012 := Wr.I wH11996
            clear g11981 g11982 g11983 g11984 hTH11980 m11985 m11986 m11987 m11988 m11989 m11990 m11991 m11992 m11993 m11994 m11995
            refine lv_aload_n hx hb dX10_text_69 rfl (lv_at hl11977 1 rfl) ?_
            refine lv_iconst (v := 0) hx hb dX10_text_70 (by decide) ?_
            refine x_put C hTH11996 hSH11996 (ci := 10) (k := 35) (v := .int 0) (ty0 := tyX10) rfl inX10 tyX10_ok nmX10 (by decide) rfl wF_X10_228 ga0 rg_112 rfl rfl (okI (by have := i_rng (0 : Int32); omega) (by have := i_rng (0 : Int32); omega)) rfl rfl (AE_in ga0 (by decide)) dX10_text_71 (fun H12013 locsH12013 hTH12013 hSH12013 wH12013 => ?_)
            have g12014 : CG (avw K H12013 a0) := CG.congr (fun k hk j => av_fld hTH11996 ga0 hap wH12013 (by decide) (CG_ok 112 (by decide) k hk) (CG_ne 35 (by decide) k hk)) g11997
            have g12015 : TU (avw K H12013 a0) (svw K H12013 a0) := TU.congr (fun k hk j => av_fld hTH11996 ga0 hap wH12013 (by decide) (TU_ok 112 (by decide) k hk) (TU_ne 35 (by decide) k hk)) (fun k hk => sv_fld hap wH12013 (by decide) (TU_slt k hk) (TU_sne 35 (by decide) k hk)) g11998
            have g12016 : WD (avw K H12013 a0) := WD.congr (fun k hk j => av_fld hTH11996 ga0 hap wH12013 (by decide) (WD_ok 112 (by decide) k hk) (WD_ne 35 (by decide) k hk)) g11999
            have g12017 : IM (avw K H12013 a0) := IM.congr (fun k hk j => av_fld hTH11996 ga0 hap wH12013 (by decide) (IM_ok 112 (by decide) k hk) (IM_ne 35 (by decide) k hk)) g12000
            have m12018 := m12001.trans (Wr.neR wH12013 (Or.inr (x_apart hKT hts inX10 tyX10 tyX10_ok nmX10 rfl 32 35 (by decide) (by decide) (by decide)))).symm
            have m12019 := m12002.trans (Wr.neR wH12013 (Or.inr (x_apart hKT hts inX10 tyX10 tyX10_ok nmX10 rfl 33 35 (by decide) (by decide) (by decide)))).symm
            have m12020 := m12003.trans (Wr.neR wH12013 (Or.inr (x_apart hKT hts inX10 tyX10 tyX10_ok nmX10 rfl 29 35 (by decide) (by decide) (by decide)))).symm
            have m12021 := m12004.trans (Wr.neR wH12013 (Or.inr (x_apart hKT hts inX10 tyX10 tyX10_ok nmX10 rfl 30 35 (by decide) (by decide) (by decide)))).symm
            have m12022 := m12005.trans (Wr.neR wH12013 (Or.inr (x_apart hKT hts inX10 tyX10 tyX10_ok nmX10 rfl 31 35 (by decide) (by decide) (by decide)))).symm
            have m12023 := m12006.trans (Wr.neR wH12013 (Or.inr (x_apart hKT hts inX10 tyX10 tyX10_ok nmX10 rfl 24 35 (by decide) (by decide) (by decide)))).symm
            have m12025 := (Wr.neI wH12013 (Or.inr (x_apart hKT hts inX10 tyX10 tyX10_ok nmX10 rfl 0 35 (by decide) (by decide) (by decide)))).trans m12008
            have m12026 := (Wr.neI wH12013 (Or.inr (x_apart hKT hts inX10 tyX10 tyX10_ok nmX10 rfl 41 35 (by decide) (by decide) (by decide)))).trans m12009
            have m12027 := (Wr.neI wH12013 (Or.inr (x_apart hKT hts inX10 tyX10 tyX10_ok nmX10 rfl 42 35 (by decide) (by decide) (by decide)))).trans m12010
            have m12028 := (Wr.neI wH12013 (Or.inr (x_apart hKT hts inX10 tyX10 tyX10_ok nmX10 rfl 34 35 (by decide) (by decide) (by decide)))).trans m12011
            have m12029 := (Wr.neI wH12013 (Or.inr (x_apart hKT hts inX10 tyX10 tyX10_ok nmX10 rfl 19 35 (by decide) (by decide) (by decide)))).trans m12012
            have m12030 := Wr.I wH12013
            clear g11997 g11998 g11999 g12000 hTH11996 m12001 m12002 m12003 m12004 m12005 m12006 m12007 m12008 m12009 m12010 m12011 m12012
            refine lv_aload_n hx hb dX10_text_74 rfl (lv_at hl11977 1 rfl) ?_
            refine lv_iconst (v := 0) hx hb dX10_text_75 (by decide) ?_
            refine x_put C hTH12013 hSH12013 (ci := 10) (k := 36) (v := .int 0) (ty0 := tyX10) rfl inX10 tyX10_ok nmX10 (by decide) rfl wF_X10_261 ga0 rg_112 rfl rfl (okI (by have := i_rng (0 : Int32); omega) (by have := i_rng (0 : Int32); omega)) rfl rfl (AE_in ga0 (by decide)) dX10_text_76 (fun H12031 locsH12031 hTH12031 hSH12031 wH12031 => ?_)
            have g12032 : CG (avw K H12031 a0) := CG.congr (fun k hk j => av_fld hTH12013 ga0 hap wH12031 (by decide) (CG_ok 112 (by decide) k hk) (CG_ne 36 (by decide) k hk)) g12014
            have g12033 : TU (avw K H12031 a0) (svw K H12031 a0) := TU.congr (fun k hk j => av_fld hTH12013 ga0 hap wH12031 (by decide) (TU_ok 112 (by decide) k hk) (TU_ne 36 (by decide) k hk)) (fun k hk => sv_fld hap wH12031 (by decide) (TU_slt k hk) (TU_sne 36 (by decide) k hk)) g12015
            have g12034 : WD (avw K H12031 a0) := WD.congr (fun k hk j => av_fld hTH12013 ga0 hap wH12031 (by decide) (WD_ok 112 (by decide) k hk) (WD_ne 36 (by decide) k hk)) g12016
            have g12035 : IM (avw K H12031 a0) := IM.congr (fun k hk j => av_fld hTH12013 ga0 hap wH12031 (by decide) (IM_ok 112 (by decide) k hk) (IM_ne 36 (by decide) k hk)) g12017
            have m12036 := m12018.trans (Wr.neR wH12031 (Or.inr (x_apart hKT hts inX10 tyX10 tyX10_ok nmX10 rfl 32 36 (by decide) (by decide) (by decide)))).symm
            have m12037 := m12019.trans (Wr.neR wH12031 (Or.inr (x_apart hKT hts inX10 tyX10 tyX10_ok nmX10 rfl 33 36 (by decide) (by decide) (by decide)))).symm
            have m12038 := m12020.trans (Wr.neR wH12031 (Or.inr (x_apart hKT hts inX10 tyX10 tyX10_ok nmX10 rfl 29 36 (by decide) (by decide) (by decide)))).symm
            have m12039 := m12021.trans (Wr.neR wH12031 (Or.inr (x_apart hKT hts inX10 tyX10 tyX10_ok nmX10 rfl 30 36 (by decide) (by decide) (by decide)))).symm
            have m12040 := m12022.trans (Wr.neR wH12031 (Or.inr (x_apart hKT hts inX10 tyX10 tyX10_ok nmX10 rfl 31 36 (by decide) (by decide) (by decide)))).symm
            have m12041 := m12023.trans (Wr.neR wH12031 (Or.inr (x_apart hKT hts inX10 tyX10 tyX10_ok nmX10 rfl 24 36 (by decide) (by decide) (by decide)))).symm
            have m12042 := (Wr.neI wH12031 (Or.inr (x_apart hKT hts inX10 tyX10 tyX10_ok nmX10 rfl 0 36 (by decide) (by decide) (by decide)))).trans m12025
            have m12043 := (Wr.neI wH12031 (Or.inr (x_apart hKT hts inX10 tyX10 tyX10_ok nmX10 rfl 41 36 (by decide) (by decide) (by decide)))).trans m12026
            have m12044 := (Wr.neI wH12031 (Or.inr (x_apart hKT hts inX10 tyX10 tyX10_ok nmX10 rfl 42 36 (by decide) (by decide) (by decide)))).trans m12027
            have m12045 := (Wr.neI wH12031 (Or.inr (x_apart hKT hts inX10 tyX10 tyX10_ok nmX10 rfl 34 36 (by decide) (by decide) (by decide)))).trans m12028
            have m12046 := (Wr.neI wH12031 (Or.inr (x_apart hKT hts inX10 tyX10 tyX10_ok nmX10 rfl 19 36 (by decide) (by decide) (by decide)))).trans m12029
            have m12047 := (Wr.neI wH12031 (Or.inr (x_apart hKT hts inX10 tyX10 tyX10_ok nmX10 rfl 35 36 (by decide) (by decide) (by decide)))).trans m12030
            have m12048 := Wr.I wH12031
            clear g12014 g12015 g12016 g12017 hTH12013 m12018 m12019 m12020 m12021 m12022 m12023 m12025 m12026 m12027 m12028 m12029 m12030
            refine lv_aload_n hx hb dX10_text_79 rfl (lv_at hl11977 1 rfl) ?_
            obtain ⟨q12049, eq12049⟩ : ∃ z : Nat, z = fR H12031 a0 (K.1.2 10 17) := ⟨_, rfl⟩
            have gq12049 := ty_fr (q := q12049) (k := 17) (u := 126) eq12049 hTH12031 ga0 rg_112 rfl
            obtain ⟨x12050, ex12050⟩ : ∃ z : Int32, z = fI H12031 a0 (K.1.2 10 20) := ⟨_, rfl⟩
            have bx12050 := ty_fi (x := x12050) (k := 20) ex12050 hTH12031 ga0 rg_112 rfl
            obtain ⟨x12051, ex12051⟩ : ∃ z : Int32, z = fI H12031 a0 (K.1.2 10 21) := ⟨_, rfl⟩
            have bx12051 := ty_fi (x := x12051) (k := 21) ex12051 hTH12031 ga0 rg_112 rfl
            obtain ⟨x12052, ex12052⟩ : ∃ z : Int32, z = fI H12031 a0 (K.1.2 10 22) := ⟨_, rfl⟩
            have bx12052 := ty_fi (x := x12052) (k := 22) ex12052 hTH12031 ga0 rg_112 rfl
            obtain ⟨x12053, ex12053⟩ : ∃ z : Int32, z = fI H12031 a0 (K.1.2 10 18) := ⟨_, rfl⟩
            have bx12053 := ty_fi (x := x12053) (k := 18) ex12053 hTH12031 ga0 rg_112 rfl
            refine x_V (As := []) (rest := []) C (a_X10_reads l K G H12031 (0) (x12050) (x12051) (x12052) (x12053) hTH12031 ga0 gq12049 eq12049 (m12046).symm ex12050 ex12051 ex12052 ex12053 g12032 g12033 g12034 g12035 (by and_intros <;> first | assumption | omega)) yo_X10_reads wM_X10_242 ⟨⟨by decide, by decide⟩, by decide, by decide⟩ (x_rv C hTH12031 (ci := 10) rfl ga0 rg_112) rfl hl11977.1 rfl (Nat.le_of_ble_eq_true rfl) dX10_text_80 hSH12031 (AE_sub (fun _ _ => rfl) (by decide) hSH12031.1) (fun vH12054 H12054 locsH12054 pH12054 zH12054 kH12054 hSH12054 => ?_)
            obtain ⟨x12055, x12056, x12057, x12058, hvH12054, ex12055, ex12056, ex12057, ex12058, hrH12054, m12059, g12060, g12061, g12062, g12063, mf12064, hTH12054⟩ := pH12054
            subst hvH12054
            have m12065 := (m12036).trans (MF.r mf12064 (k := 32) (by decide) (by decide)).symm
            have m12066 := (m12037).trans (MF.r mf12064 (k := 33) (by decide) (by decide)).symm
            have m12067 := (m12038).trans (MF.r mf12064 (k := 29) (by decide) (by decide)).symm
            have m12068 := (m12039).trans (MF.r mf12064 (k := 30) (by decide) (by decide)).symm
            have m12069 := (m12040).trans (MF.r mf12064 (k := 31) (by decide) (by decide)).symm
            have m12070 := (m12041).trans (MF.r mf12064 (k := 24) (by decide) (by decide)).symm
            have m12071 := (MF.i mf12064 (k := 0) (by decide) (by decide)).trans m12042
            have m12072 := (MF.i mf12064 (k := 41) (by decide) (by decide)).trans m12043
            have m12073 := (MF.i mf12064 (k := 42) (by decide) (by decide)).trans m12044
            have m12074 := (MF.i mf12064 (k := 34) (by decide) (by decide)).trans m12045
            have m12075 := (MF.i mf12064 (k := 35) (by decide) (by decide)).trans m12047
            have m12076 := (MF.i mf12064 (k := 36) (by decide) (by decide)).trans m12048
            have m12077 := (eq12049).trans (MF.r mf12064 (k := 17) (by decide) (by decide)).symm
            have m12078 := (ex12053).trans (MF.i mf12064 (k := 18) (by decide) (by decide)).symm
            have bx12055 := ty_fi (x := x12055) (k := 19) ex12055 hTH12054 ga0 rg_112 rfl
            have bx12056 := ty_fi (x := x12056) (k := 20) ex12056 hTH12054 ga0 rg_112 rfl
            have bx12057 := ty_fi (x := x12057) (k := 21) ex12057 hTH12054 ga0 rg_112 rfl
            have bx12058 := ty_fi (x := x12058) (k := 22) ex12058 hTH12054 ga0 rg_112 rfl
            obtain ⟨r1H12054, r2H12054, r3H12054, r4H12054, r5H12054, r6H12054, r7H12054⟩ := hrH12054
            refine W.eq (g2 := F0 m 83 ls11976 []) rfl ?_
            refine lv_iload_n hx hb dX10_text_83 rfl (lv_at hl11977 0 rfl) ?_
            refine lv_if_eq (tgt := 94) hx hb dX10_text_84 (by decide) (fun c12079 => ?_) (fun c12079 => ?_)
            · have k12080 := i_eq c12079
              refine lv_iconst (v := (-1)) hx hb dX10_text_94 (by decide) ?_
              refine lv_istore (lv' := [(4, .int (-1)), (3, .int 0), (0, .ref a0), (1, .int x1), (2, .int x2)]) hx hb dX10_text_95 hl11977 (by decide) rfl (fun ls12081 hl12082 => ?_)
              refine lv_aload_n hx hb dX10_text_97 rfl (lv_at hl12082 2 rfl) ?_
              refine lv_iconst (v := 0) hx hb dX10_text_98 (by decide) ?_
              refine x_put C hTH12054 hSH12054 (ci := 10) (k := 18) (v := .int 0) (ty0 := tyX10) rfl inX10 tyX10_ok nmX10 (by decide) rfl wF_X10_185 ga0 rg_112 rfl rfl (okI (by have := i_rng (0 : Int32); omega) (by have := i_rng (0 : Int32); omega)) rfl rfl (AE_in ga0 (by decide)) dX10_text_99 (fun H12083 locsH12083 hTH12083 hSH12083 wH12083 => ?_)
              have g12084 : CG (avw K H12083 a0) := CG.congr (fun k hk j => av_fld hTH12054 ga0 hap wH12083 (by decide) (CG_ok 112 (by decide) k hk) (CG_ne 18 (by decide) k hk)) g12060
              have g12085 : TU (avw K H12083 a0) (svw K H12083 a0) := TU.congr (fun k hk j => av_fld hTH12054 ga0 hap wH12083 (by decide) (TU_ok 112 (by decide) k hk) (TU_ne 18 (by decide) k hk)) (fun k hk => sv_fld hap wH12083 (by decide) (TU_slt k hk) (TU_sne 18 (by decide) k hk)) g12061
              have g12086 : WD (avw K H12083 a0) := WD.congr (fun k hk j => av_fld hTH12054 ga0 hap wH12083 (by decide) (WD_ok 112 (by decide) k hk) (WD_ne 18 (by decide) k hk)) g12062
              have g12087 : IM (avw K H12083 a0) := IM.congr (fun k hk j => av_fld hTH12054 ga0 hap wH12083 (by decide) (IM_ok 112 (by decide) k hk) (IM_ne 18 (by decide) k hk)) g12063
              have m12088 := m12065.trans (Wr.neR wH12083 (Or.inr (x_apart hKT hts inX10 tyX10 tyX10_ok nmX10 rfl 32 18 (by decide) (by decide) (by decide)))).symm
              have m12089 := m12066.trans (Wr.neR wH12083 (Or.inr (x_apart hKT hts inX10 tyX10 tyX10_ok nmX10 rfl 33 18 (by decide) (by decide) (by decide)))).symm
              have m12090 := m12067.trans (Wr.neR wH12083 (Or.inr (x_apart hKT hts inX10 tyX10 tyX10_ok nmX10 rfl 29 18 (by decide) (by decide) (by decide)))).symm
              have m12091 := m12068.trans (Wr.neR wH12083 (Or.inr (x_apart hKT hts inX10 tyX10 tyX10_ok nmX10 rfl 30 18 (by decide) (by decide) (by decide)))).symm
              have m12092 := m12069.trans (Wr.neR wH12083 (Or.inr (x_apart hKT hts inX10 tyX10 tyX10_ok nmX10 rfl 31 18 (by decide) (by decide) (by decide)))).symm
              have m12093 := m12070.trans (Wr.neR wH12083 (Or.inr (x_apart hKT hts inX10 tyX10 tyX10_ok nmX10 rfl 24 18 (by decide) (by decide) (by decide)))).symm
              have m12094 := (Wr.neI wH12083 (Or.inr (x_apart hKT hts inX10 tyX10 tyX10_ok nmX10 rfl 0 18 (by decide) (by decide) (by decide)))).trans m12071
              have m12095 := (Wr.neI wH12083 (Or.inr (x_apart hKT hts inX10 tyX10 tyX10_ok nmX10 rfl 41 18 (by decide) (by decide) (by decide)))).trans m12072
              have m12096 := (Wr.neI wH12083 (Or.inr (x_apart hKT hts inX10 tyX10 tyX10_ok nmX10 rfl 42 18 (by decide) (by decide) (by decide)))).trans m12073
              have m12097 := (Wr.neI wH12083 (Or.inr (x_apart hKT hts inX10 tyX10 tyX10_ok nmX10 rfl 34 18 (by decide) (by decide) (by decide)))).trans m12074
              have m12098 := (Wr.neI wH12083 (Or.inr (x_apart hKT hts inX10 tyX10 tyX10_ok nmX10 rfl 35 18 (by decide) (by decide) (by decide)))).trans m12075
              have m12099 := (Wr.neI wH12083 (Or.inr (x_apart hKT hts inX10 tyX10 tyX10_ok nmX10 rfl 36 18 (by decide) (by decide) (by decide)))).trans m12076
              have m12100 := m12059.trans (Wr.neR wH12083 (Or.inr (x_apart hKT hts inX10 tyX10 tyX10_ok nmX10 rfl 17 18 (by decide) (by decide) (by decide)))).symm
              have m12102 := ex12055.trans (Wr.neI wH12083 (Or.inr (x_apart hKT hts inX10 tyX10 tyX10_ok nmX10 rfl 19 18 (by decide) (by decide) (by decide)))).symm
              have m12103 := ex12056.trans (Wr.neI wH12083 (Or.inr (x_apart hKT hts inX10 tyX10 tyX10_ok nmX10 rfl 20 18 (by decide) (by decide) (by decide)))).symm
              have m12104 := ex12057.trans (Wr.neI wH12083 (Or.inr (x_apart hKT hts inX10 tyX10 tyX10_ok nmX10 rfl 21 18 (by decide) (by decide) (by decide)))).symm
              have m12105 := ex12058.trans (Wr.neI wH12083 (Or.inr (x_apart hKT hts inX10 tyX10 tyX10_ok nmX10 rfl 22 18 (by decide) (by decide) (by decide)))).symm
              have m12106 := Wr.I wH12083
              clear ex12055 ex12056 ex12057 ex12058 g12060 g12061 g12062 g12063 hTH12054 m12059 m12065 m12066 m12067 m12068 m12069 m12070 m12071 m12072 m12073 m12074 m12075 m12076 m12078
              refine lv_iload_n hx hb dX10_text_102 rfl (lv_at hl12082 1 rfl) ?_
              refine lv_if_eq (tgt := 128) hx hb dX10_text_103 (by decide) (fun c12107 => ?_) (fun c12107 => ?_)
              · have k12108 := i_eq c12107
                refine lv_iload hx hb dX10_text_128 (lv_at hl12082 0 rfl) ?_
                refine lv_iconst (v := (-1)) hx hb dX10_text_130 (by decide) ?_
                refine lv_icmp_ne (tgt := 136) hx hb dX10_text_131 (by decide) (fun c12109 => ?_) (fun c12109 => ?_)
                · have k12110 := i_ne c12109
                  exfalso
                  omega
                · have k12110 := i_eq c12109
                  refine lv_iconst (v := (-1)) hx hb dX10_text_134 (by decide) ?_
                  exact x_iret C hQ dX10_text_135 hSH12083 (by decide) (by decide) (⟨(-1), 0, rfl, (m12098).symm, m12088, m12089, m12090, m12091, m12092, m12093, g12084, g12085, g12086, g12087, hTH12083⟩)
              · have k12108 := i_ne c12107
                exfalso
                omega
            · have k12080 := i_ne c12079
              exfalso
              omega
        · have k11975 := i_ne c11974
          exfalso
          omega
  · have k11478 := i_eq c11477
    refine lv_aload_n hx hb dX10_text_19 rfl (lv_at hl 0 rfl) ?_
    refine lv_iload_n hx hb dX10_text_20 rfl (lv_at hl 2 rfl) ?_
    refine lv_iconst (v := 0) hx hb dX10_text_21 (by decide) ?_
    refine lv_iconst (v := 1) hx hb dX10_text_22 (by decide) ?_
    refine x_V (As := [.int x2, .int 0, .int 1]) (rest := []) C (c_X10_isIn l K G H11462 (x2) (0) (1) hTH11462 ga0) yo_X10_isIn wM_X10_177 ⟨⟨by decide, by decide⟩, by decide, by decide⟩ (x_rv C hTH11462 (ci := 10) rfl ga0 rg_112) rfl hl.1 rfl (Nat.le_of_ble_eq_true rfl) dX10_text_23 hSH11462 (AE_sub (fun _ _ => rfl) (by decide) hSH11462.1) (fun vH12111 H12111 locsH12111 pH12111 zH12111 kH12111 hSH12111 => ?_)
    have hqH12111 := pH12111.1.symm
    subst hqH12111
    rcases pH12111.2 with ⟨hvH12111, hcH12111⟩ | ⟨hvH12111, hcH12111⟩
    · subst hvH12111
      refine W.eq (g2 := F0 m 26 ls [.int 1]) rfl ?_
      refine lv_if_ne (tgt := 44) hx hb dX10_text_26 (by decide) (fun c12112 => ?_) (fun c12112 => ?_)
      · have k12113 := i_ne c12112
        refine lv_iconst (v := 1) hx hb dX10_text_44 (by decide) ?_
        refine lv_goto (tgt := 49) hx hb dX10_text_45 (by decide) ?_
        refine lv_istore_n (lv' := [(3, .int 1), (0, .ref a0), (1, .int x1), (2, .int x2)]) hx hb dX10_text_49 rfl hl (by decide) rfl (fun ls12114 hl12115 => ?_)
        refine lv_aload_n hx hb dX10_text_50 rfl (lv_at hl12115 1 rfl) ?_
        refine lv_iload_n hx hb dX10_text_51 rfl (lv_at hl12115 2 rfl) ?_
        refine lv_iconst (v := 1) hx hb dX10_text_52 (by decide) ?_
        refine lv_icmp_ne (tgt := 60) hx hb dX10_text_53 (by decide) (fun c12116 => ?_) (fun c12116 => ?_)
        · have k12117 := i_ne c12116
          refine lv_iconst (v := 0) hx hb dX10_text_60 (by decide) ?_
          refine x_put C hTH11462 hSH12111 (ci := 10) (k := 34) (v := .int 0) (ty0 := tyX10) rfl inX10 tyX10_ok nmX10 (by decide) rfl wF_X10_231 ga0 rg_112 rfl rfl (okI (by have := i_rng (0 : Int32); omega) (by have := i_rng (0 : Int32); omega)) rfl rfl (AE_in ga0 (by decide)) dX10_text_61 (fun H12118 locsH12118 hTH12118 hSH12118 wH12118 => ?_)
          have g12119 : CG (avw K H12118 a0) := CG.congr (fun k hk j => av_fld hTH11462 ga0 hap wH12118 (by decide) (CG_ok 112 (by decide) k hk) (CG_ne 34 (by decide) k hk)) g11463
          have g12120 : TU (avw K H12118 a0) (svw K H12118 a0) := TU.congr (fun k hk j => av_fld hTH11462 ga0 hap wH12118 (by decide) (TU_ok 112 (by decide) k hk) (TU_ne 34 (by decide) k hk)) (fun k hk => sv_fld hap wH12118 (by decide) (TU_slt k hk) (TU_sne 34 (by decide) k hk)) g11464
          have g12121 : WD (avw K H12118 a0) := WD.congr (fun k hk j => av_fld hTH11462 ga0 hap wH12118 (by decide) (WD_ok 112 (by decide) k hk) (WD_ne 34 (by decide) k hk)) g11465
          have g12122 : IM (avw K H12118 a0) := IM.congr (fun k hk j => av_fld hTH11462 ga0 hap wH12118 (by decide) (IM_ok 112 (by decide) k hk) (IM_ne 34 (by decide) k hk)) g11466
          have m12123 := m11467.trans (Wr.neR wH12118 (Or.inr (x_apart hKT hts inX10 tyX10 tyX10_ok nmX10 rfl 32 34 (by decide) (by decide) (by decide)))).symm
          have m12124 := m11468.trans (Wr.neR wH12118 (Or.inr (x_apart hKT hts inX10 tyX10 tyX10_ok nmX10 rfl 33 34 (by decide) (by decide) (by decide)))).symm
          have m12125 := m11469.trans (Wr.neR wH12118 (Or.inr (x_apart hKT hts inX10 tyX10 tyX10_ok nmX10 rfl 29 34 (by decide) (by decide) (by decide)))).symm
          have m12126 := m11470.trans (Wr.neR wH12118 (Or.inr (x_apart hKT hts inX10 tyX10 tyX10_ok nmX10 rfl 30 34 (by decide) (by decide) (by decide)))).symm
          have m12127 := m11471.trans (Wr.neR wH12118 (Or.inr (x_apart hKT hts inX10 tyX10 tyX10_ok nmX10 rfl 31 34 (by decide) (by decide) (by decide)))).symm
          have m12128 := m11472.trans (Wr.neR wH12118 (Or.inr (x_apart hKT hts inX10 tyX10 tyX10_ok nmX10 rfl 24 34 (by decide) (by decide) (by decide)))).symm
          have m12129 := m11473.trans (Wr.neI wH12118 (Or.inr (x_apart hKT hts inX10 tyX10 tyX10_ok nmX10 rfl 35 34 (by decide) (by decide) (by decide)))).symm
          have m12130 := (Wr.neI wH12118 (Or.inr (x_apart hKT hts inX10 tyX10 tyX10_ok nmX10 rfl 0 34 (by decide) (by decide) (by decide)))).trans m11474
          have m12131 := (Wr.neI wH12118 (Or.inr (x_apart hKT hts inX10 tyX10 tyX10_ok nmX10 rfl 41 34 (by decide) (by decide) (by decide)))).trans m11475
          have m12132 := (Wr.neI wH12118 (Or.inr (x_apart hKT hts inX10 tyX10 tyX10_ok nmX10 rfl 42 34 (by decide) (by decide) (by decide)))).trans m11476
          have m12133 := Wr.I wH12118
          clear g11463 g11464 g11465 g11466 hTH11462 m11467 m11468 m11469 m11470 m11471 m11472 m11473 m11474 m11475 m11476
          refine lv_aload_n hx hb dX10_text_64 rfl (lv_at hl12115 1 rfl) ?_
          refine lv_iconst (v := 0) hx hb dX10_text_65 (by decide) ?_
          refine x_put C hTH12118 hSH12118 (ci := 10) (k := 19) (v := .int 0) (ty0 := tyX10) rfl inX10 tyX10_ok nmX10 (by decide) rfl wF_X10_192 ga0 rg_112 rfl rfl (okI (by have := i_rng (0 : Int32); omega) (by have := i_rng (0 : Int32); omega)) rfl rfl (AE_in ga0 (by decide)) dX10_text_66 (fun H12134 locsH12134 hTH12134 hSH12134 wH12134 => ?_)
          have g12135 : CG (avw K H12134 a0) := CG.congr (fun k hk j => av_fld hTH12118 ga0 hap wH12134 (by decide) (CG_ok 112 (by decide) k hk) (CG_ne 19 (by decide) k hk)) g12119
          have g12136 : TU (avw K H12134 a0) (svw K H12134 a0) := TU.congr (fun k hk j => av_fld hTH12118 ga0 hap wH12134 (by decide) (TU_ok 112 (by decide) k hk) (TU_ne 19 (by decide) k hk)) (fun k hk => sv_fld hap wH12134 (by decide) (TU_slt k hk) (TU_sne 19 (by decide) k hk)) g12120
          have g12137 : WD (avw K H12134 a0) := WD.congr (fun k hk j => av_fld hTH12118 ga0 hap wH12134 (by decide) (WD_ok 112 (by decide) k hk) (WD_ne 19 (by decide) k hk)) g12121
          have g12138 : IM (avw K H12134 a0) := IM.congr (fun k hk j => av_fld hTH12118 ga0 hap wH12134 (by decide) (IM_ok 112 (by decide) k hk) (IM_ne 19 (by decide) k hk)) g12122
          have m12139 := m12123.trans (Wr.neR wH12134 (Or.inr (x_apart hKT hts inX10 tyX10 tyX10_ok nmX10 rfl 32 19 (by decide) (by decide) (by decide)))).symm
          have m12140 := m12124.trans (Wr.neR wH12134 (Or.inr (x_apart hKT hts inX10 tyX10 tyX10_ok nmX10 rfl 33 19 (by decide) (by decide) (by decide)))).symm
          have m12141 := m12125.trans (Wr.neR wH12134 (Or.inr (x_apart hKT hts inX10 tyX10 tyX10_ok nmX10 rfl 29 19 (by decide) (by decide) (by decide)))).symm
          have m12142 := m12126.trans (Wr.neR wH12134 (Or.inr (x_apart hKT hts inX10 tyX10 tyX10_ok nmX10 rfl 30 19 (by decide) (by decide) (by decide)))).symm
          have m12143 := m12127.trans (Wr.neR wH12134 (Or.inr (x_apart hKT hts inX10 tyX10 tyX10_ok nmX10 rfl 31 19 (by decide) (by decide) (by decide)))).symm
          have m12144 := m12128.trans (Wr.neR wH12134 (Or.inr (x_apart hKT hts inX10 tyX10 tyX10_ok nmX10 rfl 24 19 (by decide) (by decide) (by decide)))).symm
          have m12145 := m12129.trans (Wr.neI wH12134 (Or.inr (x_apart hKT hts inX10 tyX10 tyX10_ok nmX10 rfl 35 19 (by decide) (by decide) (by decide)))).symm
          have m12146 := (Wr.neI wH12134 (Or.inr (x_apart hKT hts inX10 tyX10 tyX10_ok nmX10 rfl 0 19 (by decide) (by decide) (by decide)))).trans m12130
          have m12147 := (Wr.neI wH12134 (Or.inr (x_apart hKT hts inX10 tyX10 tyX10_ok nmX10 rfl 41 19 (by decide) (by decide) (by decide)))).trans m12131
          have m12148 := (Wr.neI wH12134 (Or.inr (x_apart hKT hts inX10 tyX10 tyX10_ok nmX10 rfl 42 19 (by decide) (by decide) (by decide)))).trans m12132
          have m12149 := (Wr.neI wH12134 (Or.inr (x_apart hKT hts inX10 tyX10 tyX10_ok nmX10 rfl 34 19 (by decide) (by decide) (by decide)))).trans m12133
          have m12150 := Wr.I wH12134
          clear g12119 g12120 g12121 g12122 hTH12118 m12123 m12124 m12125 m12126 m12127 m12128 m12129 m12130 m12131 m12132 m12133
          refine lv_aload_n hx hb dX10_text_69 rfl (lv_at hl12115 1 rfl) ?_
          refine lv_iconst (v := 0) hx hb dX10_text_70 (by decide) ?_
          refine x_put C hTH12134 hSH12134 (ci := 10) (k := 35) (v := .int 0) (ty0 := tyX10) rfl inX10 tyX10_ok nmX10 (by decide) rfl wF_X10_228 ga0 rg_112 rfl rfl (okI (by have := i_rng (0 : Int32); omega) (by have := i_rng (0 : Int32); omega)) rfl rfl (AE_in ga0 (by decide)) dX10_text_71 (fun H12151 locsH12151 hTH12151 hSH12151 wH12151 => ?_)
          have g12152 : CG (avw K H12151 a0) := CG.congr (fun k hk j => av_fld hTH12134 ga0 hap wH12151 (by decide) (CG_ok 112 (by decide) k hk) (CG_ne 35 (by decide) k hk)) g12135
          have g12153 : TU (avw K H12151 a0) (svw K H12151 a0) := TU.congr (fun k hk j => av_fld hTH12134 ga0 hap wH12151 (by decide) (TU_ok 112 (by decide) k hk) (TU_ne 35 (by decide) k hk)) (fun k hk => sv_fld hap wH12151 (by decide) (TU_slt k hk) (TU_sne 35 (by decide) k hk)) g12136
          have g12154 : WD (avw K H12151 a0) := WD.congr (fun k hk j => av_fld hTH12134 ga0 hap wH12151 (by decide) (WD_ok 112 (by decide) k hk) (WD_ne 35 (by decide) k hk)) g12137
          have g12155 : IM (avw K H12151 a0) := IM.congr (fun k hk j => av_fld hTH12134 ga0 hap wH12151 (by decide) (IM_ok 112 (by decide) k hk) (IM_ne 35 (by decide) k hk)) g12138
          have m12156 := m12139.trans (Wr.neR wH12151 (Or.inr (x_apart hKT hts inX10 tyX10 tyX10_ok nmX10 rfl 32 35 (by decide) (by decide) (by decide)))).symm
          have m12157 := m12140.trans (Wr.neR wH12151 (Or.inr (x_apart hKT hts inX10 tyX10 tyX10_ok nmX10 rfl 33 35 (by decide) (by decide) (by decide)))).symm
          have m12158 := m12141.trans (Wr.neR wH12151 (Or.inr (x_apart hKT hts inX10 tyX10 tyX10_ok nmX10 rfl 29 35 (by decide) (by decide) (by decide)))).symm
          have m12159 := m12142.trans (Wr.neR wH12151 (Or.inr (x_apart hKT hts inX10 tyX10 tyX10_ok nmX10 rfl 30 35 (by decide) (by decide) (by decide)))).symm
          have m12160 := m12143.trans (Wr.neR wH12151 (Or.inr (x_apart hKT hts inX10 tyX10 tyX10_ok nmX10 rfl 31 35 (by decide) (by decide) (by decide)))).symm
          have m12161 := m12144.trans (Wr.neR wH12151 (Or.inr (x_apart hKT hts inX10 tyX10 tyX10_ok nmX10 rfl 24 35 (by decide) (by decide) (by decide)))).symm
          have m12163 := (Wr.neI wH12151 (Or.inr (x_apart hKT hts inX10 tyX10 tyX10_ok nmX10 rfl 0 35 (by decide) (by decide) (by decide)))).trans m12146
          have m12164 := (Wr.neI wH12151 (Or.inr (x_apart hKT hts inX10 tyX10 tyX10_ok nmX10 rfl 41 35 (by decide) (by decide) (by decide)))).trans m12147
          have m12165 := (Wr.neI wH12151 (Or.inr (x_apart hKT hts inX10 tyX10 tyX10_ok nmX10 rfl 42 35 (by decide) (by decide) (by decide)))).trans m12148
          have m12166 := (Wr.neI wH12151 (Or.inr (x_apart hKT hts inX10 tyX10 tyX10_ok nmX10 rfl 34 35 (by decide) (by decide) (by decide)))).trans m12149
          have m12167 := (Wr.neI wH12151 (Or.inr (x_apart hKT hts inX10 tyX10 tyX10_ok nmX10 rfl 19 35 (by decide) (by decide) (by decide)))).trans m12150
          have m12168 := Wr.I wH12151
          clear g12135 g12136 g12137 g12138 hTH12134 m12139 m12140 m12141 m12142 m12143 m12144 m12145 m12146 m12147 m12148 m12149 m12150
          refine lv_aload_n hx hb dX10_text_74 rfl (lv_at hl12115 1 rfl) ?_
          refine lv_iconst (v := 0) hx hb dX10_text_75 (by decide) ?_
          refine x_put C hTH12151 hSH12151 (ci := 10) (k := 36) (v := .int 0) (ty0 := tyX10) rfl inX10 tyX10_ok nmX10 (by decide) rfl wF_X10_261 ga0 rg_112 rfl rfl (okI (by have := i_rng (0 : Int32); omega) (by have := i_rng (0 : Int32); omega)) rfl rfl (AE_in ga0 (by decide)) dX10_text_76 (fun H12169 locsH12169 hTH12169 hSH12169 wH12169 => ?_)
          have g12170 : CG (avw K H12169 a0) := CG.congr (fun k hk j => av_fld hTH12151 ga0 hap wH12169 (by decide) (CG_ok 112 (by decide) k hk) (CG_ne 36 (by decide) k hk)) g12152
          have g12171 : TU (avw K H12169 a0) (svw K H12169 a0) := TU.congr (fun k hk j => av_fld hTH12151 ga0 hap wH12169 (by decide) (TU_ok 112 (by decide) k hk) (TU_ne 36 (by decide) k hk)) (fun k hk => sv_fld hap wH12169 (by decide) (TU_slt k hk) (TU_sne 36 (by decide) k hk)) g12153
          have g12172 : WD (avw K H12169 a0) := WD.congr (fun k hk j => av_fld hTH12151 ga0 hap wH12169 (by decide) (WD_ok 112 (by decide) k hk) (WD_ne 36 (by decide) k hk)) g12154
          have g12173 : IM (avw K H12169 a0) := IM.congr (fun k hk j => av_fld hTH12151 ga0 hap wH12169 (by decide) (IM_ok 112 (by decide) k hk) (IM_ne 36 (by decide) k hk)) g12155
          have m12174 := m12156.trans (Wr.neR wH12169 (Or.inr (x_apart hKT hts inX10 tyX10 tyX10_ok nmX10 rfl 32 36 (by decide) (by decide) (by decide)))).symm
          have m12175 := m12157.trans (Wr.neR wH12169 (Or.inr (x_apart hKT hts inX10 tyX10 tyX10_ok nmX10 rfl 33 36 (by decide) (by decide) (by decide)))).symm
          have m12176 := m12158.trans (Wr.neR wH12169 (Or.inr (x_apart hKT hts inX10 tyX10 tyX10_ok nmX10 rfl 29 36 (by decide) (by decide) (by decide)))).symm
          have m12177 := m12159.trans (Wr.neR wH12169 (Or.inr (x_apart hKT hts inX10 tyX10 tyX10_ok nmX10 rfl 30 36 (by decide) (by decide) (by decide)))).symm
          have m12178 := m12160.trans (Wr.neR wH12169 (Or.inr (x_apart hKT hts inX10 tyX10 tyX10_ok nmX10 rfl 31 36 (by decide) (by decide) (by decide)))).symm
          have m12179 := m12161.trans (Wr.neR wH12169 (Or.inr (x_apart hKT hts inX10 tyX10 tyX10_ok nmX10 rfl 24 36 (by decide) (by decide) (by decide)))).symm
          have m12180 := (Wr.neI wH12169 (Or.inr (x_apart hKT hts inX10 tyX10 tyX10_ok nmX10 rfl 0 36 (by decide) (by decide) (by decide)))).trans m12163
          have m12181 := (Wr.neI wH12169 (Or.inr (x_apart hKT hts inX10 tyX10 tyX10_ok nmX10 rfl 41 36 (by decide) (by decide) (by decide)))).trans m12164
          have m12182 := (Wr.neI wH12169 (Or.inr (x_apart hKT hts inX10 tyX10 tyX10_ok nmX10 rfl 42 36 (by decide) (by decide) (by decide)))).trans m12165
          have m12183 := (Wr.neI wH12169 (Or.inr (x_apart hKT hts inX10 tyX10 tyX10_ok nmX10 rfl 34 36 (by decide) (by decide) (by decide)))).trans m12166
          have m12184 := (Wr.neI wH12169 (Or.inr (x_apart hKT hts inX10 tyX10 tyX10_ok nmX10 rfl 19 36 (by decide) (by decide) (by decide)))).trans m12167
          have m12185 := (Wr.neI wH12169 (Or.inr (x_apart hKT hts inX10 tyX10 tyX10_ok nmX10 rfl 35 36 (by decide) (by decide) (by decide)))).trans m12168
          have m12186 := Wr.I wH12169
          clear g12152 g12153 g12154 g12155 hTH12151 m12156 m12157 m12158 m12159 m12160 m12161 m12163 m12164 m12165 m12166 m12167 m12168
          refine lv_aload_n hx hb dX10_text_79 rfl (lv_at hl12115 1 rfl) ?_
          obtain ⟨q12187, eq12187⟩ : ∃ z : Nat, z = fR H12169 a0 (K.1.2 10 17) := ⟨_, rfl⟩
          have gq12187 := ty_fr (q := q12187) (k := 17) (u := 126) eq12187 hTH12169 ga0 rg_112 rfl
          obtain ⟨x12188, ex12188⟩ : ∃ z : Int32, z = fI H12169 a0 (K.1.2 10 20) := ⟨_, rfl⟩
          have bx12188 := ty_fi (x := x12188) (k := 20) ex12188 hTH12169 ga0 rg_112 rfl
          obtain ⟨x12189, ex12189⟩ : ∃ z : Int32, z = fI H12169 a0 (K.1.2 10 21) := ⟨_, rfl⟩
          have bx12189 := ty_fi (x := x12189) (k := 21) ex12189 hTH12169 ga0 rg_112 rfl
          obtain ⟨x12190, ex12190⟩ : ∃ z : Int32, z = fI H12169 a0 (K.1.2 10 22) := ⟨_, rfl⟩
          have bx12190 := ty_fi (x := x12190) (k := 22) ex12190 hTH12169 ga0 rg_112 rfl
          obtain ⟨x12191, ex12191⟩ : ∃ z : Int32, z = fI H12169 a0 (K.1.2 10 18) := ⟨_, rfl⟩
          have bx12191 := ty_fi (x := x12191) (k := 18) ex12191 hTH12169 ga0 rg_112 rfl
          refine x_V (As := []) (rest := []) C (a_X10_reads l K G H12169 (0) (x12188) (x12189) (x12190) (x12191) hTH12169 ga0 gq12187 eq12187 (m12184).symm ex12188 ex12189 ex12190 ex12191 g12170 g12171 g12172 g12173 (by and_intros <;> first | assumption | omega)) yo_X10_reads wM_X10_242 ⟨⟨by decide, by decide⟩, by decide, by decide⟩ (x_rv C hTH12169 (ci := 10) rfl ga0 rg_112) rfl hl12115.1 rfl (Nat.le_of_ble_eq_true rfl) dX10_text_80 hSH12169 (AE_sub (fun _ _ => rfl) (by decide) hSH12169.1) (fun vH12192 H12192 locsH12192 pH12192 zH12192 kH12192 hSH12192 => ?_)
          obtain ⟨x12193, x12194, x12195, x12196, hvH12192, ex12193, ex12194, ex12195, ex12196, hrH12192, m12197, g12198, g12199, g12200, g12201, mf12202, hTH12192⟩ := pH12192
          subst hvH12192
          have m12203 := (m12174).trans (MF.r mf12202 (k := 32) (by decide) (by decide)).symm
          have m12204 := (m12175).trans (MF.r mf12202 (k := 33) (by decide) (by decide)).symm
          have m12205 := (m12176).trans (MF.r mf12202 (k := 29) (by decide) (by decide)).symm
          have m12206 := (m12177).trans (MF.r mf12202 (k := 30) (by decide) (by decide)).symm
          have m12207 := (m12178).trans (MF.r mf12202 (k := 31) (by decide) (by decide)).symm
          have m12208 := (m12179).trans (MF.r mf12202 (k := 24) (by decide) (by decide)).symm
          have m12209 := (MF.i mf12202 (k := 0) (by decide) (by decide)).trans m12180
          have m12210 := (MF.i mf12202 (k := 41) (by decide) (by decide)).trans m12181
          have m12211 := (MF.i mf12202 (k := 42) (by decide) (by decide)).trans m12182
          have m12212 := (MF.i mf12202 (k := 34) (by decide) (by decide)).trans m12183
          have m12213 := (MF.i mf12202 (k := 35) (by decide) (by decide)).trans m12185
          have m12214 := (MF.i mf12202 (k := 36) (by decide) (by decide)).trans m12186
          have m12215 := (eq12187).trans (MF.r mf12202 (k := 17) (by decide) (by decide)).symm
          have m12216 := (ex12191).trans (MF.i mf12202 (k := 18) (by decide) (by decide)).symm
          have bx12193 := ty_fi (x := x12193) (k := 19) ex12193 hTH12192 ga0 rg_112 rfl
          have bx12194 := ty_fi (x := x12194) (k := 20) ex12194 hTH12192 ga0 rg_112 rfl
          have bx12195 := ty_fi (x := x12195) (k := 21) ex12195 hTH12192 ga0 rg_112 rfl
          have bx12196 := ty_fi (x := x12196) (k := 22) ex12196 hTH12192 ga0 rg_112 rfl
          obtain ⟨r1H12192, r2H12192, r3H12192, r4H12192, r5H12192, r6H12192, r7H12192⟩ := hrH12192
          refine W.eq (g2 := F0 m 83 ls12114 []) rfl ?_
          refine lv_iload_n hx hb dX10_text_83 rfl (lv_at hl12115 0 rfl) ?_
          refine lv_if_eq (tgt := 94) hx hb dX10_text_84 (by decide) (fun c12217 => ?_) (fun c12217 => ?_)
          · have k12218 := i_eq c12217
            exfalso
            omega
          · have k12218 := i_ne c12217
            refine lv_aload_n hx hb dX10_text_87 rfl (lv_at hl12115 1 rfl) ?_
            refine x_V (As := []) (rest := []) C (a_X10_readText l K G H12192 (x12193) (x12194) (x12195) (x12196) (0) (x12191) (0) hTH12192 ga0 goq m12203 gaq m12204 gf9 m12205 gf0 m12206 gf1 m12207 ex12193 ex12194 ex12195 ex12196 (m12213).symm m12216 (m12212).symm g12198 g12199 g12200 g12201 (by and_intros <;> first | assumption | omega) (by and_intros <;> first | assumption | omega)) yo_X10_readText wM_X10_295 ⟨⟨by decide, by decide⟩, by decide, by decide⟩ (x_rv C hTH12192 (ci := 10) rfl ga0 rg_112) rfl hl12115.1 rfl (Nat.le_of_ble_eq_true rfl) dX10_text_88 hSH12192 (AE_sub (fun _ _ => rfl) (by decide) hSH12192.1) (fun vH12219 H12219 locsH12219 pH12219 zH12219 kH12219 hSH12219 => ?_)
            obtain ⟨x12220, x12221, x12222, x12223, x12224, x12225, hvH12219, bx12220, ex12221, ex12222, ex12223, ex12224, ex12225, hrH12219, m12226, m12227, m12228, m12229, m12230, g12231, g12232, g12233, g12234, mf12235, m12236, hTH12219⟩ := pH12219
            subst hvH12219
            have m12237 := (m12203).trans (MF.r mf12235 (k := 32) (by decide) (by decide)).symm
            have m12238 := (m12204).trans (MF.r mf12235 (k := 33) (by decide) (by decide)).symm
            have m12239 := (m12205).trans (MF.r mf12235 (k := 29) (by decide) (by decide)).symm
            have m12240 := (m12206).trans (MF.r mf12235 (k := 30) (by decide) (by decide)).symm
            have m12241 := (m12207).trans (MF.r mf12235 (k := 31) (by decide) (by decide)).symm
            have m12242 := (m12208).trans (MF.r mf12235 (k := 24) (by decide) (by decide)).symm
            have m12243 := (MF.i mf12235 (k := 0) (by decide) (by decide)).trans m12209
            have m12244 := (MF.i mf12235 (k := 41) (by decide) (by decide)).trans m12210
            have m12245 := (MF.i mf12235 (k := 42) (by decide) (by decide)).trans m12211
            have m12246 := (MF.i mf12235 (k := 34) (by decide) (by decide)).trans m12212
            have m12247 := (m12197).trans (MF.r mf12235 (k := 17) (by decide) (by decide)).symm
            have m12248 := (m12216).trans (MF.i mf12235 (k := 18) (by decide) (by decide)).symm
            have bx12221 := ty_fi (x := x12221) (k := 19) ex12221 hTH12219 ga0 rg_112 rfl
            have bx12222 := ty_fi (x := x12222) (k := 20) ex12222 hTH12219 ga0 rg_112 rfl
            have bx12223 := ty_fi (x := x12223) (k := 21) ex12223 hTH12219 ga0 rg_112 rfl
            have bx12224 := ty_fi (x := x12224) (k := 22) ex12224 hTH12219 ga0 rg_112 rfl
            have bx12225 := ty_fi (x := x12225) (k := 35) ex12225 hTH12219 ga0 rg_112 rfl
            refine W.eq (g2 := F0 m 91 ls12114 [.int x12220]) rfl ?_
            refine lv_goto (tgt := 95) hx hb dX10_text_91 (by decide) ?_
            refine lv_istore (lv' := [(4, .int x12220), (3, .int 1), (0, .ref a0), (1, .int x1), (2, .int x2)]) hx hb dX10_text_95 hl12115 (by decide) rfl (fun ls12249 hl12250 => ?_)
            refine lv_aload_n hx hb dX10_text_97 rfl (lv_at hl12250 2 rfl) ?_
            refine lv_iconst (v := 0) hx hb dX10_text_98 (by decide) ?_
            refine x_put C hTH12219 hSH12219 (ci := 10) (k := 18) (v := .int 0) (ty0 := tyX10) rfl inX10 tyX10_ok nmX10 (by decide) rfl wF_X10_185 ga0 rg_112 rfl rfl (okI (by have := i_rng (0 : Int32); omega) (by have := i_rng (0 : Int32); omega)) rfl rfl (AE_in ga0 (by decide)) dX10_text_99 (fun H12251 locsH12251 hTH12251 hSH12251 wH12251 => ?_)
            have g12252 : CG (avw K H12251 a0) := CG.congr (fun k hk j => av_fld hTH12219 ga0 hap wH12251 (by decide) (CG_ok 112 (by decide) k hk) (CG_ne 18 (by decide) k hk)) g12231
            have g12253 : TU (avw K H12251 a0) (svw K H12251 a0) := TU.congr (fun k hk j => av_fld hTH12219 ga0 hap wH12251 (by decide) (TU_ok 112 (by decide) k hk) (TU_ne 18 (by decide) k hk)) (fun k hk => sv_fld hap wH12251 (by decide) (TU_slt k hk) (TU_sne 18 (by decide) k hk)) g12232
            have g12254 : WD (avw K H12251 a0) := WD.congr (fun k hk j => av_fld hTH12219 ga0 hap wH12251 (by decide) (WD_ok 112 (by decide) k hk) (WD_ne 18 (by decide) k hk)) g12233
            have g12255 : IM (avw K H12251 a0) := IM.congr (fun k hk j => av_fld hTH12219 ga0 hap wH12251 (by decide) (IM_ok 112 (by decide) k hk) (IM_ne 18 (by decide) k hk)) g12234
            have m12256 := m12226.trans (Wr.neR wH12251 (Or.inr (x_apart hKT hts inX10 tyX10 tyX10_ok nmX10 rfl 32 18 (by decide) (by decide) (by decide)))).symm
            have m12257 := m12227.trans (Wr.neR wH12251 (Or.inr (x_apart hKT hts inX10 tyX10 tyX10_ok nmX10 rfl 33 18 (by decide) (by decide) (by decide)))).symm
            have m12258 := m12228.trans (Wr.neR wH12251 (Or.inr (x_apart hKT hts inX10 tyX10 tyX10_ok nmX10 rfl 29 18 (by decide) (by decide) (by decide)))).symm
            have m12259 := m12229.trans (Wr.neR wH12251 (Or.inr (x_apart hKT hts inX10 tyX10 tyX10_ok nmX10 rfl 30 18 (by decide) (by decide) (by decide)))).symm
            have m12260 := m12230.trans (Wr.neR wH12251 (Or.inr (x_apart hKT hts inX10 tyX10 tyX10_ok nmX10 rfl 31 18 (by decide) (by decide) (by decide)))).symm
            have m12261 := m12242.trans (Wr.neR wH12251 (Or.inr (x_apart hKT hts inX10 tyX10 tyX10_ok nmX10 rfl 24 18 (by decide) (by decide) (by decide)))).symm
            have m12262 := (Wr.neI wH12251 (Or.inr (x_apart hKT hts inX10 tyX10 tyX10_ok nmX10 rfl 0 18 (by decide) (by decide) (by decide)))).trans m12243
            have m12263 := (Wr.neI wH12251 (Or.inr (x_apart hKT hts inX10 tyX10 tyX10_ok nmX10 rfl 41 18 (by decide) (by decide) (by decide)))).trans m12244
            have m12264 := (Wr.neI wH12251 (Or.inr (x_apart hKT hts inX10 tyX10 tyX10_ok nmX10 rfl 42 18 (by decide) (by decide) (by decide)))).trans m12245
            have m12265 := (Wr.neI wH12251 (Or.inr (x_apart hKT hts inX10 tyX10 tyX10_ok nmX10 rfl 34 18 (by decide) (by decide) (by decide)))).trans m12246
            have m12266 := m12247.trans (Wr.neR wH12251 (Or.inr (x_apart hKT hts inX10 tyX10 tyX10_ok nmX10 rfl 17 18 (by decide) (by decide) (by decide)))).symm
            have m12268 := ex12221.trans (Wr.neI wH12251 (Or.inr (x_apart hKT hts inX10 tyX10 tyX10_ok nmX10 rfl 19 18 (by decide) (by decide) (by decide)))).symm
            have m12269 := ex12222.trans (Wr.neI wH12251 (Or.inr (x_apart hKT hts inX10 tyX10 tyX10_ok nmX10 rfl 20 18 (by decide) (by decide) (by decide)))).symm
            have m12270 := ex12223.trans (Wr.neI wH12251 (Or.inr (x_apart hKT hts inX10 tyX10 tyX10_ok nmX10 rfl 21 18 (by decide) (by decide) (by decide)))).symm
            have m12271 := ex12224.trans (Wr.neI wH12251 (Or.inr (x_apart hKT hts inX10 tyX10 tyX10_ok nmX10 rfl 22 18 (by decide) (by decide) (by decide)))).symm
            have m12272 := ex12225.trans (Wr.neI wH12251 (Or.inr (x_apart hKT hts inX10 tyX10 tyX10_ok nmX10 rfl 35 18 (by decide) (by decide) (by decide)))).symm
            have m12273 := Wr.I wH12251
            clear ex12221 ex12222 ex12223 ex12224 ex12225 g12231 g12232 g12233 g12234 hTH12219 m12226 m12227 m12228 m12229 m12230 m12242 m12243 m12244 m12245 m12246 m12247 m12248
            refine lv_iload_n hx hb dX10_text_102 rfl (lv_at hl12250 1 rfl) ?_
            refine lv_if_eq (tgt := 128) hx hb dX10_text_103 (by decide) (fun c12274 => ?_) (fun c12274 => ?_)
            · have k12275 := i_eq c12274
              exfalso
              omega
            · have k12275 := i_ne c12274
              refine lv_iload hx hb dX10_text_106 (lv_at hl12250 0 rfl) ?_
              refine lv_iconst (v := (-1)) hx hb dX10_text_108 (by decide) ?_
              refine lv_icmp_ne (tgt := 128) hx hb dX10_text_109 (by decide) (fun c12276 => ?_) (fun c12276 => ?_)
              · have k12277 := i_ne c12276
                refine lv_iload hx hb dX10_text_128 (lv_at hl12250 0 rfl) ?_
                refine lv_iconst (v := (-1)) hx hb dX10_text_130 (by decide) ?_
                refine lv_icmp_ne (tgt := 136) hx hb dX10_text_131 (by decide) (fun c12278 => ?_) (fun c12278 => ?_)
                · have k12279 := i_ne c12278
                  refine lv_iload_n hx hb dX10_text_136 rfl (lv_at hl12250 3 rfl) ?_
                  refine lv_if_ne (tgt := 144) hx hb dX10_text_137 (by decide) (fun c12280 => ?_) (fun c12280 => ?_)
                  · have k12281 := i_ne c12280
                    exfalso
                    omega
                  · have k12281 := i_eq c12280
                    refine lv_iload_n hx hb dX10_text_140 rfl (lv_at hl12250 4 rfl) ?_
                    refine lv_goto (tgt := 147) hx hb dX10_text_141 (by decide) ?_
                    refine lv_istore (lv' := [(5, .int x2), (4, .int x12220), (3, .int 1), (0, .ref a0), (1, .int x1), (2, .int x2)]) hx hb dX10_text_147 hl12250 (by decide) rfl (fun ls12282 hl12283 => ?_)
                    have hDL := m12236.resolve_left (by omega)
                    replace hDL := DL.congr (fun j => Wr.neI wH12251 (Or.inl (G_ne gf9 ga0 (by decide)))) (fun j => Wr.neI wH12251 (Or.inl (G_ne gf0 ga0 (by decide)))) (fun j => Wr.neI wH12251 (Or.inl (G_ne gf1 ga0 (by decide)))) (fun j => Wr.neI wH12251 (Or.inl (G_ne goq ga0 (by decide)))) (fun j => Wr.neI wH12251 (Or.inl (G_ne gaq ga0 (by decide)))) hDL
                    exact J149  ls12282 H12251 locsH12251 (x12220) (x2) (x12225) (lv_sub hl12283 [3, 1, 0] rfl) hTH12251 hSH12251 ⟨by have := i_rng x12220; omega, by have := i_rng x12220; omega⟩ ⟨by have := i_rng x2; omega, by have := i_rng x2; omega⟩ ⟨by have := i_rng x12225; omega, by have := i_rng x12225; omega⟩ m12272 m12256 m12257 m12258 m12259 m12260 m12261 g12252 g12253 g12254 g12255 (DL.cast hDL (by omega) (by omega))
                · have k12279 := i_eq c12278
                  exfalso
                  omega
              · have k12277 := i_eq c12276
                refine lv_aload_n hx hb dX10_text_112 rfl (lv_at hl12250 2 rfl) ?_
                refine lv_aload_n hx hb dX10_text_113 rfl (lv_at hl12250 2 rfl) ?_
                refine x_gi C hTH12251 (ci := 10) (k := 39) rfl inX10 (by decide) wF_X10_222 ga0 rg_112 rfl dX10_text_114 (fun x12284 ex12284 bx12284 => ?_)
                refine x_put C hTH12251 hSH12251 (ci := 10) (k := 41) (v := .int x12284) (ty0 := tyX10) rfl inX10 tyX10_ok nmX10 (by decide) rfl wF_X10_292 ga0 rg_112 rfl rfl (okI (by have := i_rng x12284; omega) (by have := i_rng x12284; omega)) rfl rfl (AE_in ga0 (by decide)) dX10_text_117 (fun H12285 locsH12285 hTH12285 hSH12285 wH12285 => ?_)
                have g12286 : CG (avw K H12285 a0) := CG.congr (fun k hk j => av_fld hTH12251 ga0 hap wH12285 (by decide) (CG_ok 112 (by decide) k hk) (CG_ne 41 (by decide) k hk)) g12252
                have g12287 : TU (avw K H12285 a0) (svw K H12285 a0) := TU.congr (fun k hk j => av_fld hTH12251 ga0 hap wH12285 (by decide) (TU_ok 112 (by decide) k hk) (TU_ne 41 (by decide) k hk)) (fun k hk => sv_fld hap wH12285 (by decide) (TU_slt k hk) (TU_sne 41 (by decide) k hk)) g12253
                have g12288 : WD (avw K H12285 a0) := WD.congr (fun k hk j => av_fld hTH12251 ga0 hap wH12285 (by decide) (WD_ok 112 (by decide) k hk) (WD_ne 41 (by decide) k hk)) g12254
                have g12289 : IM (avw K H12285 a0) := IM.congr (fun k hk j => av_fld hTH12251 ga0 hap wH12285 (by decide) (IM_ok 112 (by decide) k hk) (IM_ne 41 (by decide) k hk)) g12255
                have m12290 := m12256.trans (Wr.neR wH12285 (Or.inr (x_apart hKT hts inX10 tyX10 tyX10_ok nmX10 rfl 32 41 (by decide) (by decide) (by decide)))).symm
                have m12291 := m12257.trans (Wr.neR wH12285 (Or.inr (x_apart hKT hts inX10 tyX10 tyX10_ok nmX10 rfl 33 41 (by decide) (by decide) (by decide)))).symm
                have m12292 := m12258.trans (Wr.neR wH12285 (Or.inr (x_apart hKT hts inX10 tyX10 tyX10_ok nmX10 rfl 29 41 (by decide) (by decide) (by decide)))).symm
                have m12293 := m12259.trans (Wr.neR wH12285 (Or.inr (x_apart hKT hts inX10 tyX10 tyX10_ok nmX10 rfl 30 41 (by decide) (by decide) (by decide)))).symm
                have m12294 := m12260.trans (Wr.neR wH12285 (Or.inr (x_apart hKT hts inX10 tyX10 tyX10_ok nmX10 rfl 31 41 (by decide) (by decide) (by decide)))).symm
                have m12295 := m12261.trans (Wr.neR wH12285 (Or.inr (x_apart hKT hts inX10 tyX10 tyX10_ok nmX10 rfl 24 41 (by decide) (by decide) (by decide)))).symm
                have m12296 := (Wr.neI wH12285 (Or.inr (x_apart hKT hts inX10 tyX10 tyX10_ok nmX10 rfl 0 41 (by decide) (by decide) (by decide)))).trans m12262
                have m12298 := (Wr.neI wH12285 (Or.inr (x_apart hKT hts inX10 tyX10 tyX10_ok nmX10 rfl 42 41 (by decide) (by decide) (by decide)))).trans m12264
                have m12299 := (Wr.neI wH12285 (Or.inr (x_apart hKT hts inX10 tyX10 tyX10_ok nmX10 rfl 34 41 (by decide) (by decide) (by decide)))).trans m12265
                have m12300 := m12266.trans (Wr.neR wH12285 (Or.inr (x_apart hKT hts inX10 tyX10 tyX10_ok nmX10 rfl 17 41 (by decide) (by decide) (by decide)))).symm
                have m12301 := m12268.trans (Wr.neI wH12285 (Or.inr (x_apart hKT hts inX10 tyX10 tyX10_ok nmX10 rfl 19 41 (by decide) (by decide) (by decide)))).symm
                have m12302 := m12269.trans (Wr.neI wH12285 (Or.inr (x_apart hKT hts inX10 tyX10 tyX10_ok nmX10 rfl 20 41 (by decide) (by decide) (by decide)))).symm
                have m12303 := m12270.trans (Wr.neI wH12285 (Or.inr (x_apart hKT hts inX10 tyX10 tyX10_ok nmX10 rfl 21 41 (by decide) (by decide) (by decide)))).symm
                have m12304 := m12271.trans (Wr.neI wH12285 (Or.inr (x_apart hKT hts inX10 tyX10 tyX10_ok nmX10 rfl 22 41 (by decide) (by decide) (by decide)))).symm
                have m12305 := m12272.trans (Wr.neI wH12285 (Or.inr (x_apart hKT hts inX10 tyX10 tyX10_ok nmX10 rfl 35 41 (by decide) (by decide) (by decide)))).symm
                have m12306 := (Wr.neI wH12285 (Or.inr (x_apart hKT hts inX10 tyX10 tyX10_ok nmX10 rfl 18 41 (by decide) (by decide) (by decide)))).trans m12273
                have m12307 := ex12284.trans (Wr.neI wH12285 (Or.inr (x_apart hKT hts inX10 tyX10 tyX10_ok nmX10 rfl 39 41 (by decide) (by decide) (by decide)))).symm
                have m12308 := Wr.I wH12285
                have m12308 := m12308.symm
                clear ex12284 g12252 g12253 g12254 g12255 hTH12251 m12256 m12257 m12258 m12259 m12260 m12261 m12262 m12263 m12264 m12265 m12266 m12268 m12269 m12270 m12271 m12272 m12273
                refine lv_aload_n hx hb dX10_text_120 rfl (lv_at hl12250 2 rfl) ?_
                refine lv_aload_n hx hb dX10_text_121 rfl (lv_at hl12250 2 rfl) ?_
                refine x_gi C hTH12285 (ci := 10) (k := 40) rfl inX10 (by decide) wF_X10_225 ga0 rg_112 rfl dX10_text_122 (fun x12309 ex12309 bx12309 => ?_)
                refine x_put C hTH12285 hSH12285 (ci := 10) (k := 42) (v := .int x12309) (ty0 := tyX10) rfl inX10 tyX10_ok nmX10 (by decide) rfl wF_X10_92 ga0 rg_112 rfl rfl (okI (by have := i_rng x12309; omega) (by have := i_rng x12309; omega)) rfl rfl (AE_in ga0 (by decide)) dX10_text_125 (fun H12310 locsH12310 hTH12310 hSH12310 wH12310 => ?_)
                have g12311 : CG (avw K H12310 a0) := CG.congr (fun k hk j => av_fld hTH12285 ga0 hap wH12310 (by decide) (CG_ok 112 (by decide) k hk) (CG_ne 42 (by decide) k hk)) g12286
                have g12312 : TU (avw K H12310 a0) (svw K H12310 a0) := TU.congr (fun k hk j => av_fld hTH12285 ga0 hap wH12310 (by decide) (TU_ok 112 (by decide) k hk) (TU_ne 42 (by decide) k hk)) (fun k hk => sv_fld hap wH12310 (by decide) (TU_slt k hk) (TU_sne 42 (by decide) k hk)) g12287
                have g12313 : WD (avw K H12310 a0) := WD.congr (fun k hk j => av_fld hTH12285 ga0 hap wH12310 (by decide) (WD_ok 112 (by decide) k hk) (WD_ne 42 (by decide) k hk)) g12288
                have g12314 : IM (avw K H12310 a0) := IM.congr (fun k hk j => av_fld hTH12285 ga0 hap wH12310 (by decide) (IM_ok 112 (by decide) k hk) (IM_ne 42 (by decide) k hk)) g12289
                have m12315 := m12290.trans (Wr.neR wH12310 (Or.inr (x_apart hKT hts inX10 tyX10 tyX10_ok nmX10 rfl 32 42 (by decide) (by decide) (by decide)))).symm
                have m12316 := m12291.trans (Wr.neR wH12310 (Or.inr (x_apart hKT hts inX10 tyX10 tyX10_ok nmX10 rfl 33 42 (by decide) (by decide) (by decide)))).symm
                have m12317 := m12292.trans (Wr.neR wH12310 (Or.inr (x_apart hKT hts inX10 tyX10 tyX10_ok nmX10 rfl 29 42 (by decide) (by decide) (by decide)))).symm
                have m12318 := m12293.trans (Wr.neR wH12310 (Or.inr (x_apart hKT hts inX10 tyX10 tyX10_ok nmX10 rfl 30 42 (by decide) (by decide) (by decide)))).symm
                have m12319 := m12294.trans (Wr.neR wH12310 (Or.inr (x_apart hKT hts inX10 tyX10 tyX10_ok nmX10 rfl 31 42 (by decide) (by decide) (by decide)))).symm
                have m12320 := m12295.trans (Wr.neR wH12310 (Or.inr (x_apart hKT hts inX10 tyX10 tyX10_ok nmX10 rfl 24 42 (by decide) (by decide) (by decide)))).symm
                have m12321 := (Wr.neI wH12310 (Or.inr (x_apart hKT hts inX10 tyX10 tyX10_ok nmX10 rfl 0 42 (by decide) (by decide) (by decide)))).trans m12296
                have m12323 := (Wr.neI wH12310 (Or.inr (x_apart hKT hts inX10 tyX10 tyX10_ok nmX10 rfl 34 42 (by decide) (by decide) (by decide)))).trans m12299
                have m12324 := m12300.trans (Wr.neR wH12310 (Or.inr (x_apart hKT hts inX10 tyX10 tyX10_ok nmX10 rfl 17 42 (by decide) (by decide) (by decide)))).symm
                have m12325 := m12301.trans (Wr.neI wH12310 (Or.inr (x_apart hKT hts inX10 tyX10 tyX10_ok nmX10 rfl 19 42 (by decide) (by decide) (by decide)))).symm
                have m12326 := m12302.trans (Wr.neI wH12310 (Or.inr (x_apart hKT hts inX10 tyX10 tyX10_ok nmX10 rfl 20 42 (by decide) (by decide) (by decide)))).symm
                have m12327 := m12303.trans (Wr.neI wH12310 (Or.inr (x_apart hKT hts inX10 tyX10 tyX10_ok nmX10 rfl 21 42 (by decide) (by decide) (by decide)))).symm
                have m12328 := m12304.trans (Wr.neI wH12310 (Or.inr (x_apart hKT hts inX10 tyX10 tyX10_ok nmX10 rfl 22 42 (by decide) (by decide) (by decide)))).symm
                have m12329 := m12305.trans (Wr.neI wH12310 (Or.inr (x_apart hKT hts inX10 tyX10 tyX10_ok nmX10 rfl 35 42 (by decide) (by decide) (by decide)))).symm
                have m12330 := (Wr.neI wH12310 (Or.inr (x_apart hKT hts inX10 tyX10 tyX10_ok nmX10 rfl 18 42 (by decide) (by decide) (by decide)))).trans m12306
                have m12331 := m12307.trans (Wr.neI wH12310 (Or.inr (x_apart hKT hts inX10 tyX10 tyX10_ok nmX10 rfl 39 42 (by decide) (by decide) (by decide)))).symm
                have m12332 := m12308.trans (Wr.neI wH12310 (Or.inr (x_apart hKT hts inX10 tyX10 tyX10_ok nmX10 rfl 41 42 (by decide) (by decide) (by decide)))).symm
                have m12333 := ex12309.trans (Wr.neI wH12310 (Or.inr (x_apart hKT hts inX10 tyX10 tyX10_ok nmX10 rfl 40 42 (by decide) (by decide) (by decide)))).symm
                have m12334 := Wr.I wH12310
                have m12334 := m12334.symm
                clear ex12309 g12286 g12287 g12288 g12289 hTH12285 m12290 m12291 m12292 m12293 m12294 m12295 m12296 m12298 m12299 m12300 m12301 m12302 m12303 m12304 m12305 m12306 m12307 m12308
                refine lv_iload hx hb dX10_text_128 (lv_at hl12250 0 rfl) ?_
                refine lv_iconst (v := (-1)) hx hb dX10_text_130 (by decide) ?_
                refine lv_icmp_ne (tgt := 136) hx hb dX10_text_131 (by decide) (fun c12335 => ?_) (fun c12335 => ?_)
                · have k12336 := i_ne c12335
                  exfalso
                  omega
                · have k12336 := i_eq c12335
                  refine lv_iconst (v := (-1)) hx hb dX10_text_134 (by decide) ?_
                  exact x_iret C hQ dX10_text_135 hSH12310 (by decide) (by decide) (⟨(-1), x12225, rfl, m12329, m12315, m12316, m12317, m12318, m12319, m12320, g12311, g12312, g12313, g12314, hTH12310⟩)
        · have k12117 := i_eq c12116
          exfalso
          omega
      · have k12113 := i_eq c12112
        exfalso
        omega
    · subst hvH12111
      refine W.eq (g2 := F0 m 26 ls [.int 0]) rfl ?_
      refine lv_if_ne (tgt := 44) hx hb dX10_text_26 (by decide) (fun c12337 => ?_) (fun c12337 => ?_)
      · have k12338 := i_ne c12337
        exfalso
        omega
      · have k12338 := i_eq c12337
        refine lv_iload_n hx hb dX10_text_29 rfl (lv_at hl 1 rfl) ?_
        refine lv_iconst (v := 1) hx hb dX10_text_30 (by decide) ?_
        refine lv_icmp_ne (tgt := 48) hx hb dX10_text_31 (by decide) (fun c12339 => ?_) (fun c12339 => ?_)
        · have k12340 := i_ne c12339
          refine lv_iconst (v := 0) hx hb dX10_text_48 (by decide) ?_
          refine lv_istore_n (lv' := [(3, .int 0), (0, .ref a0), (1, .int x1), (2, .int x2)]) hx hb dX10_text_49 rfl hl (by decide) rfl (fun ls12341 hl12342 => ?_)
          refine lv_aload_n hx hb dX10_text_50 rfl (lv_at hl12342 1 rfl) ?_
          refine lv_iload_n hx hb dX10_text_51 rfl (lv_at hl12342 2 rfl) ?_
          refine lv_iconst (v := 1) hx hb dX10_text_52 (by decide) ?_
          refine lv_icmp_ne (tgt := 60) hx hb dX10_text_53 (by decide) (fun c12343 => ?_) (fun c12343 => ?_)
          · have k12344 := i_ne c12343
            refine lv_iconst (v := 0) hx hb dX10_text_60 (by decide) ?_
            refine x_put C hTH11462 hSH12111 (ci := 10) (k := 34) (v := .int 0) (ty0 := tyX10) rfl inX10 tyX10_ok nmX10 (by decide) rfl wF_X10_231 ga0 rg_112 rfl rfl (okI (by have := i_rng (0 : Int32); omega) (by have := i_rng (0 : Int32); omega)) rfl rfl (AE_in ga0 (by decide)) dX10_text_61 (fun H12345 locsH12345 hTH12345 hSH12345 wH12345 => ?_)
            have g12346 : CG (avw K H12345 a0) := CG.congr (fun k hk j => av_fld hTH11462 ga0 hap wH12345 (by decide) (CG_ok 112 (by decide) k hk) (CG_ne 34 (by decide) k hk)) g11463
            have g12347 : TU (avw K H12345 a0) (svw K H12345 a0) := TU.congr (fun k hk j => av_fld hTH11462 ga0 hap wH12345 (by decide) (TU_ok 112 (by decide) k hk) (TU_ne 34 (by decide) k hk)) (fun k hk => sv_fld hap wH12345 (by decide) (TU_slt k hk) (TU_sne 34 (by decide) k hk)) g11464
            have g12348 : WD (avw K H12345 a0) := WD.congr (fun k hk j => av_fld hTH11462 ga0 hap wH12345 (by decide) (WD_ok 112 (by decide) k hk) (WD_ne 34 (by decide) k hk)) g11465
            have g12349 : IM (avw K H12345 a0) := IM.congr (fun k hk j => av_fld hTH11462 ga0 hap wH12345 (by decide) (IM_ok 112 (by decide) k hk) (IM_ne 34 (by decide) k hk)) g11466
            have m12350 := m11467.trans (Wr.neR wH12345 (Or.inr (x_apart hKT hts inX10 tyX10 tyX10_ok nmX10 rfl 32 34 (by decide) (by decide) (by decide)))).symm
            have m12351 := m11468.trans (Wr.neR wH12345 (Or.inr (x_apart hKT hts inX10 tyX10 tyX10_ok nmX10 rfl 33 34 (by decide) (by decide) (by decide)))).symm
            have m12352 := m11469.trans (Wr.neR wH12345 (Or.inr (x_apart hKT hts inX10 tyX10 tyX10_ok nmX10 rfl 29 34 (by decide) (by decide) (by decide)))).symm
            have m12353 := m11470.trans (Wr.neR wH12345 (Or.inr (x_apart hKT hts inX10 tyX10 tyX10_ok nmX10 rfl 30 34 (by decide) (by decide) (by decide)))).symm
            have m12354 := m11471.trans (Wr.neR wH12345 (Or.inr (x_apart hKT hts inX10 tyX10 tyX10_ok nmX10 rfl 31 34 (by decide) (by decide) (by decide)))).symm
            have m12355 := m11472.trans (Wr.neR wH12345 (Or.inr (x_apart hKT hts inX10 tyX10 tyX10_ok nmX10 rfl 24 34 (by decide) (by decide) (by decide)))).symm
            have m12356 := m11473.trans (Wr.neI wH12345 (Or.inr (x_apart hKT hts inX10 tyX10 tyX10_ok nmX10 rfl 35 34 (by decide) (by decide) (by decide)))).symm
            have m12357 := (Wr.neI wH12345 (Or.inr (x_apart hKT hts inX10 tyX10 tyX10_ok nmX10 rfl 0 34 (by decide) (by decide) (by decide)))).trans m11474
            have m12358 := (Wr.neI wH12345 (Or.inr (x_apart hKT hts inX10 tyX10 tyX10_ok nmX10 rfl 41 34 (by decide) (by decide) (by decide)))).trans m11475
            have m12359 := (Wr.neI wH12345 (Or.inr (x_apart hKT hts inX10 tyX10 tyX10_ok nmX10 rfl 42 34 (by decide) (by decide) (by decide)))).trans m11476
            have m12360 := Wr.I wH12345
            clear g11463 g11464 g11465 g11466 hTH11462 m11467 m11468 m11469 m11470 m11471 m11472 m11473 m11474 m11475 m11476
            refine lv_aload_n hx hb dX10_text_64 rfl (lv_at hl12342 1 rfl) ?_
            refine lv_iconst (v := 0) hx hb dX10_text_65 (by decide) ?_
            refine x_put C hTH12345 hSH12345 (ci := 10) (k := 19) (v := .int 0) (ty0 := tyX10) rfl inX10 tyX10_ok nmX10 (by decide) rfl wF_X10_192 ga0 rg_112 rfl rfl (okI (by have := i_rng (0 : Int32); omega) (by have := i_rng (0 : Int32); omega)) rfl rfl (AE_in ga0 (by decide)) dX10_text_66 (fun H12361 locsH12361 hTH12361 hSH12361 wH12361 => ?_)
            have g12362 : CG (avw K H12361 a0) := CG.congr (fun k hk j => av_fld hTH12345 ga0 hap wH12361 (by decide) (CG_ok 112 (by decide) k hk) (CG_ne 19 (by decide) k hk)) g12346
            have g12363 : TU (avw K H12361 a0) (svw K H12361 a0) := TU.congr (fun k hk j => av_fld hTH12345 ga0 hap wH12361 (by decide) (TU_ok 112 (by decide) k hk) (TU_ne 19 (by decide) k hk)) (fun k hk => sv_fld hap wH12361 (by decide) (TU_slt k hk) (TU_sne 19 (by decide) k hk)) g12347
            have g12364 : WD (avw K H12361 a0) := WD.congr (fun k hk j => av_fld hTH12345 ga0 hap wH12361 (by decide) (WD_ok 112 (by decide) k hk) (WD_ne 19 (by decide) k hk)) g12348
            have g12365 : IM (avw K H12361 a0) := IM.congr (fun k hk j => av_fld hTH12345 ga0 hap wH12361 (by decide) (IM_ok 112 (by decide) k hk) (IM_ne 19 (by decide) k hk)) g12349
            have m12366 := m12350.trans (Wr.neR wH12361 (Or.inr (x_apart hKT hts inX10 tyX10 tyX10_ok nmX10 rfl 32 19 (by decide) (by decide) (by decide)))).symm
            have m12367 := m12351.trans (Wr.neR wH12361 (Or.inr (x_apart hKT hts inX10 tyX10 tyX10_ok nmX10 rfl 33 19 (by decide) (by decide) (by decide)))).symm
            have m12368 := m12352.trans (Wr.neR wH12361 (Or.inr (x_apart hKT hts inX10 tyX10 tyX10_ok nmX10 rfl 29 19 (by decide) (by decide) (by decide)))).symm
            have m12369 := m12353.trans (Wr.neR wH12361 (Or.inr (x_apart hKT hts inX10 tyX10 tyX10_ok nmX10 rfl 30 19 (by decide) (by decide) (by decide)))).symm
            have m12370 := m12354.trans (Wr.neR wH12361 (Or.inr (x_apart hKT hts inX10 tyX10 tyX10_ok nmX10 rfl 31 19 (by decide) (by decide) (by decide)))).symm
            have m12371 := m12355.trans (Wr.neR wH12361 (Or.inr (x_apart hKT hts inX10 tyX10 tyX10_ok nmX10 rfl 24 19 (by decide) (by decide) (by decide)))).symm
            have m12372 := m12356.trans (Wr.neI wH12361 (Or.inr (x_apart hKT hts inX10 tyX10 tyX10_ok nmX10 rfl 35 19 (by decide) (by decide) (by decide)))).symm
            have m12373 := (Wr.neI wH12361 (Or.inr (x_apart hKT hts inX10 tyX10 tyX10_ok nmX10 rfl 0 19 (by decide) (by decide) (by decide)))).trans m12357
            have m12374 := (Wr.neI wH12361 (Or.inr (x_apart hKT hts inX10 tyX10 tyX10_ok nmX10 rfl 41 19 (by decide) (by decide) (by decide)))).trans m12358
            have m12375 := (Wr.neI wH12361 (Or.inr (x_apart hKT hts inX10 tyX10 tyX10_ok nmX10 rfl 42 19 (by decide) (by decide) (by decide)))).trans m12359
            have m12376 := (Wr.neI wH12361 (Or.inr (x_apart hKT hts inX10 tyX10 tyX10_ok nmX10 rfl 34 19 (by decide) (by decide) (by decide)))).trans m12360
            have m12377 := Wr.I wH12361
            clear g12346 g12347 g12348 g12349 hTH12345 m12350 m12351 m12352 m12353 m12354 m12355 m12356 m12357 m12358 m12359 m12360
            refine lv_aload_n hx hb dX10_text_69 rfl (lv_at hl12342 1 rfl) ?_
            refine lv_iconst (v := 0) hx hb dX10_text_70 (by decide) ?_
            refine x_put C hTH12361 hSH12361 (ci := 10) (k := 35) (v := .int 0) (ty0 := tyX10) rfl inX10 tyX10_ok nmX10 (by decide) rfl wF_X10_228 ga0 rg_112 rfl rfl (okI (by have := i_rng (0 : Int32); omega) (by have := i_rng (0 : Int32); omega)) rfl rfl (AE_in ga0 (by decide)) dX10_text_71 (fun H12378 locsH12378 hTH12378 hSH12378 wH12378 => ?_)
            have g12379 : CG (avw K H12378 a0) := CG.congr (fun k hk j => av_fld hTH12361 ga0 hap wH12378 (by decide) (CG_ok 112 (by decide) k hk) (CG_ne 35 (by decide) k hk)) g12362
            have g12380 : TU (avw K H12378 a0) (svw K H12378 a0) := TU.congr (fun k hk j => av_fld hTH12361 ga0 hap wH12378 (by decide) (TU_ok 112 (by decide) k hk) (TU_ne 35 (by decide) k hk)) (fun k hk => sv_fld hap wH12378 (by decide) (TU_slt k hk) (TU_sne 35 (by decide) k hk)) g12363
            have g12381 : WD (avw K H12378 a0) := WD.congr (fun k hk j => av_fld hTH12361 ga0 hap wH12378 (by decide) (WD_ok 112 (by decide) k hk) (WD_ne 35 (by decide) k hk)) g12364
            have g12382 : IM (avw K H12378 a0) := IM.congr (fun k hk j => av_fld hTH12361 ga0 hap wH12378 (by decide) (IM_ok 112 (by decide) k hk) (IM_ne 35 (by decide) k hk)) g12365
            have m12383 := m12366.trans (Wr.neR wH12378 (Or.inr (x_apart hKT hts inX10 tyX10 tyX10_ok nmX10 rfl 32 35 (by decide) (by decide) (by decide)))).symm
            have m12384 := m12367.trans (Wr.neR wH12378 (Or.inr (x_apart hKT hts inX10 tyX10 tyX10_ok nmX10 rfl 33 35 (by decide) (by decide) (by decide)))).symm
            have m12385 := m12368.trans (Wr.neR wH12378 (Or.inr (x_apart hKT hts inX10 tyX10 tyX10_ok nmX10 rfl 29 35 (by decide) (by decide) (by decide)))).symm
            have m12386 := m12369.trans (Wr.neR wH12378 (Or.inr (x_apart hKT hts inX10 tyX10 tyX10_ok nmX10 rfl 30 35 (by decide) (by decide) (by decide)))).symm
            have m12387 := m12370.trans (Wr.neR wH12378 (Or.inr (x_apart hKT hts inX10 tyX10 tyX10_ok nmX10 rfl 31 35 (by decide) (by decide) (by decide)))).symm
            have m12388 := m12371.trans (Wr.neR wH12378 (Or.inr (x_apart hKT hts inX10 tyX10 tyX10_ok nmX10 rfl 24 35 (by decide) (by decide) (by decide)))).symm
            have m12390 := (Wr.neI wH12378 (Or.inr (x_apart hKT hts inX10 tyX10 tyX10_ok nmX10 rfl 0 35 (by decide) (by decide) (by decide)))).trans m12373
            have m12391 := (Wr.neI wH12378 (Or.inr (x_apart hKT hts inX10 tyX10 tyX10_ok nmX10 rfl 41 35 (by decide) (by decide) (by decide)))).trans m12374
            have m12392 := (Wr.neI wH12378 (Or.inr (x_apart hKT hts inX10 tyX10 tyX10_ok nmX10 rfl 42 35 (by decide) (by decide) (by decide)))).trans m12375
            have m12393 := (Wr.neI wH12378 (Or.inr (x_apart hKT hts inX10 tyX10 tyX10_ok nmX10 rfl 34 35 (by decide) (by decide) (by decide)))).trans m12376
            have m12394 := (Wr.neI wH12378 (Or.inr (x_apart hKT hts inX10 tyX10 tyX10_ok nmX10 rfl 19 35 (by decide) (by decide) (by decide)))).trans m12377
            have m12395 := Wr.I wH12378
            clear g12362 g12363 g12364 g12365 hTH12361 m12366 m12367 m12368 m12369 m12370 m12371 m12372 m12373 m12374 m12375 m12376 m12377
            refine lv_aload_n hx hb dX10_text_74 rfl (lv_at hl12342 1 rfl) ?_
            refine lv_iconst (v := 0) hx hb dX10_text_75 (by decide) ?_
            refine x_put C hTH12378 hSH12378 (ci := 10) (k := 36) (v := .int 0) (ty0 := tyX10) rfl inX10 tyX10_ok nmX10 (by decide) rfl wF_X10_261 ga0 rg_112 rfl rfl (okI (by have := i_rng (0 : Int32); omega) (by have := i_rng (0 : Int32); omega)) rfl rfl (AE_in ga0 (by decide)) dX10_text_76 (fun H12396 locsH12396 hTH12396 hSH12396 wH12396 => ?_)
            have g12397 : CG (avw K H12396 a0) := CG.congr (fun k hk j => av_fld hTH12378 ga0 hap wH12396 (by decide) (CG_ok 112 (by decide) k hk) (CG_ne 36 (by decide) k hk)) g12379
            have g12398 : TU (avw K H12396 a0) (svw K H12396 a0) := TU.congr (fun k hk j => av_fld hTH12378 ga0 hap wH12396 (by decide) (TU_ok 112 (by decide) k hk) (TU_ne 36 (by decide) k hk)) (fun k hk => sv_fld hap wH12396 (by decide) (TU_slt k hk) (TU_sne 36 (by decide) k hk)) g12380
            have g12399 : WD (avw K H12396 a0) := WD.congr (fun k hk j => av_fld hTH12378 ga0 hap wH12396 (by decide) (WD_ok 112 (by decide) k hk) (WD_ne 36 (by decide) k hk)) g12381
            have g12400 : IM (avw K H12396 a0) := IM.congr (fun k hk j => av_fld hTH12378 ga0 hap wH12396 (by decide) (IM_ok 112 (by decide) k hk) (IM_ne 36 (by decide) k hk)) g12382
            have m12401 := m12383.trans (Wr.neR wH12396 (Or.inr (x_apart hKT hts inX10 tyX10 tyX10_ok nmX10 rfl 32 36 (by decide) (by decide) (by decide)))).symm
            have m12402 := m12384.trans (Wr.neR wH12396 (Or.inr (x_apart hKT hts inX10 tyX10 tyX10_ok nmX10 rfl 33 36 (by decide) (by decide) (by decide)))).symm
            have m12403 := m12385.trans (Wr.neR wH12396 (Or.inr (x_apart hKT hts inX10 tyX10 tyX10_ok nmX10 rfl 29 36 (by decide) (by decide) (by decide)))).symm
            have m12404 := m12386.trans (Wr.neR wH12396 (Or.inr (x_apart hKT hts inX10 tyX10 tyX10_ok nmX10 rfl 30 36 (by decide) (by decide) (by decide)))).symm
            have m12405 := m12387.trans (Wr.neR wH12396 (Or.inr (x_apart hKT hts inX10 tyX10 tyX10_ok nmX10 rfl 31 36 (by decide) (by decide) (by decide)))).symm
            have m12406 := m12388.trans (Wr.neR wH12396 (Or.inr (x_apart hKT hts inX10 tyX10 tyX10_ok nmX10 rfl 24 36 (by decide) (by decide) (by decide)))).symm
            have m12407 := (Wr.neI wH12396 (Or.inr (x_apart hKT hts inX10 tyX10 tyX10_ok nmX10 rfl 0 36 (by decide) (by decide) (by decide)))).trans m12390
            have m12408 := (Wr.neI wH12396 (Or.inr (x_apart hKT hts inX10 tyX10 tyX10_ok nmX10 rfl 41 36 (by decide) (by decide) (by decide)))).trans m12391
            have m12409 := (Wr.neI wH12396 (Or.inr (x_apart hKT hts inX10 tyX10 tyX10_ok nmX10 rfl 42 36 (by decide) (by decide) (by decide)))).trans m12392
            have m12410 := (Wr.neI wH12396 (Or.inr (x_apart hKT hts inX10 tyX10 tyX10_ok nmX10 rfl 34 36 (by decide) (by decide) (by decide)))).trans m12393
            have m12411 := (Wr.neI wH12396 (Or.inr (x_apart hKT hts inX10 tyX10 tyX10_ok nmX10 rfl 19 36 (by decide) (by decide) (by decide)))).trans m12394
            have m12412 := (Wr.neI wH12396 (Or.inr (x_apart hKT hts inX10 tyX10 tyX10_ok nmX10 rfl 35 36 (by decide) (by decide) (by decide)))).trans m12395
            have m12413 := Wr.I wH12396
            clear g12379 g12380 g12381 g12382 hTH12378 m12383 m12384 m12385 m12386 m12387 m12388 m12390 m12391 m12392 m12393 m12394 m12395
            refine lv_aload_n hx hb dX10_text_79 rfl (lv_at hl12342 1 rfl) ?_
            obtain ⟨q12414, eq12414⟩ : ∃ z : Nat, z = fR H12396 a0 (K.1.2 10 17) := ⟨_, rfl⟩
            have gq12414 := ty_fr (q := q12414) (k := 17) (u := 126) eq12414 hTH12396 ga0 rg_112 rfl
            obtain ⟨x12415, ex12415⟩ : ∃ z : Int32, z = fI H12396 a0 (K.1.2 10 20) := ⟨_, rfl⟩
            have bx12415 := ty_fi (x := x12415) (k := 20) ex12415 hTH12396 ga0 rg_112 rfl
            obtain ⟨x12416, ex12416⟩ : ∃ z : Int32, z = fI H12396 a0 (K.1.2 10 21) := ⟨_, rfl⟩
            have bx12416 := ty_fi (x := x12416) (k := 21) ex12416 hTH12396 ga0 rg_112 rfl
            obtain ⟨x12417, ex12417⟩ : ∃ z : Int32, z = fI H12396 a0 (K.1.2 10 22) := ⟨_, rfl⟩
            have bx12417 := ty_fi (x := x12417) (k := 22) ex12417 hTH12396 ga0 rg_112 rfl
            obtain ⟨x12418, ex12418⟩ : ∃ z : Int32, z = fI H12396 a0 (K.1.2 10 18) := ⟨_, rfl⟩
            have bx12418 := ty_fi (x := x12418) (k := 18) ex12418 hTH12396 ga0 rg_112 rfl
            refine x_V (As := []) (rest := []) C (a_X10_reads l K G H12396 (0) (x12415) (x12416) (x12417) (x12418) hTH12396 ga0 gq12414 eq12414 (m12411).symm ex12415 ex12416 ex12417 ex12418 g12397 g12398 g12399 g12400 (by and_intros <;> first | assumption | omega)) yo_X10_reads wM_X10_242 ⟨⟨by decide, by decide⟩, by decide, by decide⟩ (x_rv C hTH12396 (ci := 10) rfl ga0 rg_112) rfl hl12342.1 rfl (Nat.le_of_ble_eq_true rfl) dX10_text_80 hSH12396 (AE_sub (fun _ _ => rfl) (by decide) hSH12396.1) (fun vH12419 H12419 locsH12419 pH12419 zH12419 kH12419 hSH12419 => ?_)
            obtain ⟨x12420, x12421, x12422, x12423, hvH12419, ex12420, ex12421, ex12422, ex12423, hrH12419, m12424, g12425, g12426, g12427, g12428, mf12429, hTH12419⟩ := pH12419
            subst hvH12419
            have m12430 := (m12401).trans (MF.r mf12429 (k := 32) (by decide) (by decide)).symm
            have m12431 := (m12402).trans (MF.r mf12429 (k := 33) (by decide) (by decide)).symm
            have m12432 := (m12403).trans (MF.r mf12429 (k := 29) (by decide) (by decide)).symm
            have m12433 := (m12404).trans (MF.r mf12429 (k := 30) (by decide) (by decide)).symm
            have m12434 := (m12405).trans (MF.r mf12429 (k := 31) (by decide) (by decide)).symm
            have m12435 := (m12406).trans (MF.r mf12429 (k := 24) (by decide) (by decide)).symm
            have m12436 := (MF.i mf12429 (k := 0) (by decide) (by decide)).trans m12407
            have m12437 := (MF.i mf12429 (k := 41) (by decide) (by decide)).trans m12408
            have m12438 := (MF.i mf12429 (k := 42) (by decide) (by decide)).trans m12409
            have m12439 := (MF.i mf12429 (k := 34) (by decide) (by decide)).trans m12410
            have m12440 := (MF.i mf12429 (k := 35) (by decide) (by decide)).trans m12412
            have m12441 := (MF.i mf12429 (k := 36) (by decide) (by decide)).trans m12413
            have m12442 := (eq12414).trans (MF.r mf12429 (k := 17) (by decide) (by decide)).symm
            have m12443 := (ex12418).trans (MF.i mf12429 (k := 18) (by decide) (by decide)).symm
            have bx12420 := ty_fi (x := x12420) (k := 19) ex12420 hTH12419 ga0 rg_112 rfl
            have bx12421 := ty_fi (x := x12421) (k := 20) ex12421 hTH12419 ga0 rg_112 rfl
            have bx12422 := ty_fi (x := x12422) (k := 21) ex12422 hTH12419 ga0 rg_112 rfl
            have bx12423 := ty_fi (x := x12423) (k := 22) ex12423 hTH12419 ga0 rg_112 rfl
            obtain ⟨r1H12419, r2H12419, r3H12419, r4H12419, r5H12419, r6H12419, r7H12419⟩ := hrH12419
            refine W.eq (g2 := F0 m 83 ls12341 []) rfl ?_
            refine lv_iload_n hx hb dX10_text_83 rfl (lv_at hl12342 0 rfl) ?_
            refine lv_if_eq (tgt := 94) hx hb dX10_text_84 (by decide) (fun c12444 => ?_) (fun c12444 => ?_)
            · have k12445 := i_eq c12444
              refine lv_iconst (v := (-1)) hx hb dX10_text_94 (by decide) ?_
              refine lv_istore (lv' := [(4, .int (-1)), (3, .int 0), (0, .ref a0), (1, .int x1), (2, .int x2)]) hx hb dX10_text_95 hl12342 (by decide) rfl (fun ls12446 hl12447 => ?_)
              refine lv_aload_n hx hb dX10_text_97 rfl (lv_at hl12447 2 rfl) ?_
              refine lv_iconst (v := 0) hx hb dX10_text_98 (by decide) ?_
              refine x_put C hTH12419 hSH12419 (ci := 10) (k := 18) (v := .int 0) (ty0 := tyX10) rfl inX10 tyX10_ok nmX10 (by decide) rfl wF_X10_185 ga0 rg_112 rfl rfl (okI (by have := i_rng (0 : Int32); omega) (by have := i_rng (0 : Int32); omega)) rfl rfl (AE_in ga0 (by decide)) dX10_text_99 (fun H12448 locsH12448 hTH12448 hSH12448 wH12448 => ?_)
              have g12449 : CG (avw K H12448 a0) := CG.congr (fun k hk j => av_fld hTH12419 ga0 hap wH12448 (by decide) (CG_ok 112 (by decide) k hk) (CG_ne 18 (by decide) k hk)) g12425
              have g12450 : TU (avw K H12448 a0) (svw K H12448 a0) := TU.congr (fun k hk j => av_fld hTH12419 ga0 hap wH12448 (by decide) (TU_ok 112 (by decide) k hk) (TU_ne 18 (by decide) k hk)) (fun k hk => sv_fld hap wH12448 (by decide) (TU_slt k hk) (TU_sne 18 (by decide) k hk)) g12426
              have g12451 : WD (avw K H12448 a0) := WD.congr (fun k hk j => av_fld hTH12419 ga0 hap wH12448 (by decide) (WD_ok 112 (by decide) k hk) (WD_ne 18 (by decide) k hk)) g12427
              have g12452 : IM (avw K H12448 a0) := IM.congr (fun k hk j => av_fld hTH12419 ga0 hap wH12448 (by decide) (IM_ok 112 (by decide) k hk) (IM_ne 18 (by decide) k hk)) g12428
              have m12453 := m12430.trans (Wr.neR wH12448 (Or.inr (x_apart hKT hts inX10 tyX10 tyX10_ok nmX10 rfl 32 18 (by decide) (by decide) (by decide)))).symm
              have m12454 := m12431.trans (Wr.neR wH12448 (Or.inr (x_apart hKT hts inX10 tyX10 tyX10_ok nmX10 rfl 33 18 (by decide) (by decide) (by decide)))).symm
              have m12455 := m12432.trans (Wr.neR wH12448 (Or.inr (x_apart hKT hts inX10 tyX10 tyX10_ok nmX10 rfl 29 18 (by decide) (by decide) (by decide)))).symm
              have m12456 := m12433.trans (Wr.neR wH12448 (Or.inr (x_apart hKT hts inX10 tyX10 tyX10_ok nmX10 rfl 30 18 (by decide) (by decide) (by decide)))).symm
              have m12457 := m12434.trans (Wr.neR wH12448 (Or.inr (x_apart hKT hts inX10 tyX10 tyX10_ok nmX10 rfl 31 18 (by decide) (by decide) (by decide)))).symm
              have m12458 := m12435.trans (Wr.neR wH12448 (Or.inr (x_apart hKT hts inX10 tyX10 tyX10_ok nmX10 rfl 24 18 (by decide) (by decide) (by decide)))).symm
              have m12459 := (Wr.neI wH12448 (Or.inr (x_apart hKT hts inX10 tyX10 tyX10_ok nmX10 rfl 0 18 (by decide) (by decide) (by decide)))).trans m12436
              have m12460 := (Wr.neI wH12448 (Or.inr (x_apart hKT hts inX10 tyX10 tyX10_ok nmX10 rfl 41 18 (by decide) (by decide) (by decide)))).trans m12437
              have m12461 := (Wr.neI wH12448 (Or.inr (x_apart hKT hts inX10 tyX10 tyX10_ok nmX10 rfl 42 18 (by decide) (by decide) (by decide)))).trans m12438
              have m12462 := (Wr.neI wH12448 (Or.inr (x_apart hKT hts inX10 tyX10 tyX10_ok nmX10 rfl 34 18 (by decide) (by decide) (by decide)))).trans m12439
              have m12463 := (Wr.neI wH12448 (Or.inr (x_apart hKT hts inX10 tyX10 tyX10_ok nmX10 rfl 35 18 (by decide) (by decide) (by decide)))).trans m12440
              have m12464 := (Wr.neI wH12448 (Or.inr (x_apart hKT hts inX10 tyX10 tyX10_ok nmX10 rfl 36 18 (by decide) (by decide) (by decide)))).trans m12441
              have m12465 := m12424.trans (Wr.neR wH12448 (Or.inr (x_apart hKT hts inX10 tyX10 tyX10_ok nmX10 rfl 17 18 (by decide) (by decide) (by decide)))).symm
              have m12467 := ex12420.trans (Wr.neI wH12448 (Or.inr (x_apart hKT hts inX10 tyX10 tyX10_ok nmX10 rfl 19 18 (by decide) (by decide) (by decide)))).symm
              have m12468 := ex12421.trans (Wr.neI wH12448 (Or.inr (x_apart hKT hts inX10 tyX10 tyX10_ok nmX10 rfl 20 18 (by decide) (by decide) (by decide)))).symm
              have m12469 := ex12422.trans (Wr.neI wH12448 (Or.inr (x_apart hKT hts inX10 tyX10 tyX10_ok nmX10 rfl 21 18 (by decide) (by decide) (by decide)))).symm
              have m12470 := ex12423.trans (Wr.neI wH12448 (Or.inr (x_apart hKT hts inX10 tyX10 tyX10_ok nmX10 rfl 22 18 (by decide) (by decide) (by decide)))).symm
              have m12471 := Wr.I wH12448
              clear ex12420 ex12421 ex12422 ex12423 g12425 g12426 g12427 g12428 hTH12419 m12424 m12430 m12431 m12432 m12433 m12434 m12435 m12436 m12437 m12438 m12439 m12440 m12441 m12443
              refine lv_iload_n hx hb dX10_text_102 rfl (lv_at hl12447 1 rfl) ?_
              refine lv_if_eq (tgt := 128) hx hb dX10_text_103 (by decide) (fun c12472 => ?_) (fun c12472 => ?_)
              · have k12473 := i_eq c12472
                refine lv_iload hx hb dX10_text_128 (lv_at hl12447 0 rfl) ?_
                refine lv_iconst (v := (-1)) hx hb dX10_text_130 (by decide) ?_
                refine lv_icmp_ne (tgt := 136) hx hb dX10_text_131 (by decide) (fun c12474 => ?_) (fun c12474 => ?_)
                · have k12475 := i_ne c12474
                  exfalso
                  omega
                · have k12475 := i_eq c12474
                  refine lv_iconst (v := (-1)) hx hb dX10_text_134 (by decide) ?_
                  exact x_iret C hQ dX10_text_135 hSH12448 (by decide) (by decide) (⟨(-1), 0, rfl, (m12463).symm, m12453, m12454, m12455, m12456, m12457, m12458, g12449, g12450, g12451, g12452, hTH12448⟩)
              · have k12473 := i_ne c12472
                exfalso
                omega
            · have k12445 := i_ne c12444
              exfalso
              omega
          · have k12344 := i_eq c12343
            exfalso
            omega
        · have k12340 := i_eq c12339
          exfalso
          omega
