/-! ===== tones ===== -/
def rtF (b m : Int) : Int := if m ≤ 0 then 0 else 1000 * b / m
def suI (f : Nat → Int) : Nat → Int
  | 0 => 0
  | n + 1 => suI f n + f n
theorem suI_s {f : Nat → Int} {n m : Nat} (h : m = n + 1) : suI f m = suI f n + f n := by subst h; rfl
theorem rt_l {b m r : Int32} {y1 y2 z q : Int64} (h1 : y1.toInt = b.toInt) (hz : z = 1000 * y1) (h2 : y2.toInt = m.toInt) (hq : q = z / y2) (hr : q.toInt32 = r) (hb : 0 ≤ b.toInt ∧ b.toInt ≤ 2000000) (hm : 0 < m.toInt) : r.toInt = 1000 * b.toInt / m.toInt := by
  have k : (1000 : Int64).toInt = 1000 := rfl
  have z1 : z.toInt = 1000 * b.toInt := by
    rw [hz, Int64.toInt_mul, k, h1]
    exact Int.bmod_eq_of_le_mul_two (by omega) (by omega)
  have q1 : q.toInt = 1000 * b.toInt / m.toInt := by
    rw [hq, Int64.toInt_div_of_ne_right _ _ (fun e => by have e := congrArg Int64.toInt e; rw [h2] at e; have e2 : (-1 : Int64).toInt = -1 := rfl; omega), z1, h2, Int.tdiv_eq_ediv_of_nonneg (by omega)]
  have q2 : 0 ≤ 1000 * b.toInt / m.toInt := Int.ediv_nonneg (by omega) (by omega)
  have q3 : 1000 * b.toInt / m.toInt ≤ 1000 * b.toInt := Int.ediv_le_self _ (by omega)
  rw [← hr, Int64.toInt_toInt32, q1]
  exact Int.bmod_eq_of_le_mul_two (by omega) (by omega)
theorem rt_b {b m : Int} (hb : 0 ≤ b ∧ b ≤ 2000000) (hm : 0 < m) : 0 ≤ 1000 * b / m ∧ 1000 * b / m ≤ 2000000000 := by
  have q2 : 0 ≤ 1000 * b / m := Int.ediv_nonneg (by omega) (by omega)
  have q3 : 1000 * b / m ≤ 1000 * b := Int.ediv_le_self _ (by omega)
  omega
theorem rt_i {b m x r : Int32} (hx : x = 1000 * b) (hr : r = x / m) (hb : 0 ≤ b.toInt ∧ b.toInt ≤ 2000000) (hm : 0 < m.toInt) : r.toInt = 1000 * b.toInt / m.toInt := by
  have k : (1000 : Int32).toInt = 1000 := rfl
  have x1 := i_mul hx (by rw [k]; omega)
  rw [k] at x1
  rw [hr, lg_idiv_nonneg (by omega) (by omega), x1]
/-- what a law's word tells in a place, of the class's arrays -/
def tlA (H : Heap) (wq fq cq dq : Nat) (fsE fwE : Nat → EF) (w k : Int) (li : Nat) (e : Nat → Int32) : Int := tdA H wq fq cq dq (fun l => fsE l e) (fun l => fwE l e) w k li 0
theorem clT_r {w v : Int} (h : w ≤ 1) : 0 ≤ clT w v ∧ clT w v ≤ 99999 := by
  unfold clT
  rw [if_pos h]
  split
  · omega
  · split <;> omega
theorem tdF_r {wd fi : Nat → Int} {hw : Nat → Bool} {fs fw : Nat → Int32} {w t : Int} (h : w ≤ 1) : ∀ f l : Nat, 0 ≤ tdF wd fi hw fs fw w t f l ∧ tdF wd fi hw fs fw w t f l ≤ 99999
  | 0, _ => by show (0 : Int) ≤ 0 ∧ (0 : Int) ≤ 99999; omega
  | f + 1, l => by
    by_cases c : wd l = w ∧ fi l = t ∧ (hw l = false ∨ fw l ≠ 0)
    · rw [show tdF wd fi hw fs fw w t (f + 1) l = clT w (fs l).toInt from if_pos c]
      exact clT_r h
    · rw [show tdF wd fi hw fs fw w t (f + 1) l = tdF wd fi hw fs fw w t f (l + 1) from if_neg c]
      exact tdF_r h f (l + 1)
theorem tlA_r {H : Heap} {wq fq cq dq : Nat} {fsE fwE : Nat → EF} {w k : Int} {li : Nat} {e : Nat → Int32} (h : w ≤ 1) : 0 ≤ tlA H wq fq cq dq fsE fwE w k li e ∧ tlA H wq fq cq dq fsE fwE w k li e ≤ 99999 := tdF_r h _ _
theorem tdA_congr {H H1 : Heap} {wq fq cq dq : Nat} {fs fw : Nat → Int32} {w t : Int} {f l : Nat} (e1 : ∀ j, fI H1 wq j = fI H wq j) (e2 : ∀ j, fI H1 fq j = fI H fq j) (e3 : ∀ j, fI H1 cq j = fI H cq j) (e4 : ∀ j, fI H1 dq j = fI H dq j) : tdA H1 wq fq cq dq fs fw w t f l = tdA H wq fq cq dq fs fw w t f l := by
  unfold tdA
  rw [show (fun j => (fI H1 wq j).toInt) = (fun j => (fI H wq j).toInt) from funext fun j => congrArg Int32.toInt (e1 j), show (fun j => (fI H1 fq j).toInt) = (fun j => (fI H fq j).toInt) from funext fun j => congrArg Int32.toInt (e2 j), show (fun j => decide ((fI H1 cq j).toInt < (fI H1 dq j).toInt)) = (fun j => decide ((fI H cq j).toInt < (fI H dq j).toInt)) from funext fun j => by rw [e3 j, e4 j]]
theorem tl_hy {un S S1 b b1 c c1 : Nat → Int32} {lw li : Int} {f : Nat → EF} {e : Nat → Int32} (h : ∀ l : Nat, (l : Int) < li → ∀ un k : Nat → Int32, vlC un S k (b l).toNatClampNeg (c l).toNatClampNeg = f l (mkE lw (eC un))) (e2 : ∀ j, S1 j = S j) (eb : ∀ j, b1 j = b j) (ec : ∀ j, c1 j = c j) (he : mkE lw (eC un) = e) : ∀ l : Nat, (l : Int) < li → ∀ k : Nat → Int32, vlC un S1 k (b1 l).toNatClampNeg (c1 l).toNatClampNeg = f l e := by
  intro l hl k
  obtain rfl : S1 = S := funext e2
  rw [eb l, ec l, h l hl un k, he]
theorem tl_hw {un S S1 c c1 d d1 : Nat → Int32} {lw li : Int} {f : Nat → EF} {e : Nat → Int32} (h : ∀ l : Nat, (l : Int) < li → (c l).toInt < (d l).toInt → ∀ un k : Nat → Int32, vlC un S k (c l).toNatClampNeg (d l).toNatClampNeg = f l (mkE lw (eC un))) (e2 : ∀ j, S1 j = S j) (ec : ∀ j, c1 j = c j) (ed : ∀ j, d1 j = d j) (he : mkE lw (eC un) = e) : ∀ l : Nat, (l : Int) < li → (c1 l).toInt < (d1 l).toInt → ∀ k : Nat → Int32, vlC un S1 k (c1 l).toNatClampNeg (d1 l).toNatClampNeg = f l e := by
  intro l hl hc k
  obtain rfl : S1 = S := funext e2
  rw [ec l, ed l] at hc
  rw [ec l, ed l, h l hl hc un k, he]
set_option maxHeartbeats 4000000 in
set_option maxRecDepth 100000 in
theorem a_X9_ratio_v (l : Launch) (K : KE) (G : Nat → Option Nat) (H : Heap) (x0 : Int32) (x1 : Int32) (hT : TY K G H) (hx0 : 0 ≤ x0.toInt ∧ x0.toInt ≤ 2000000) (hx1 : 0 ≤ x1.toInt ∧ x1.toInt ≤ 2000000) : MX l K yX9_ratio cX9_ratio 2 (some .int) 0 0 0 0 [.int x0, .int x1] H (AE G [] H.size) (fun v H1 => ∃ (r : Int32), v = some (.int r) ∧ (0 ≤ r.toInt ∧ r.toInt ≤ 2000000000) ∧ (r.toInt = rtF x0.toInt x1.toInt) ∧ TY K G H1) := by
  refine MX.of (by decide +kernel) (Nat.le_of_ble_eq_true rfl) ?_
  intro p e s m below meth c ls Q C hH hl hQ
  subst hH
  have C : CX p K s m _ meth c RX9 cX9_ratio 2 (some .int) "ratio" := C
  obtain ⟨hx, hb, hml, hown, hts, hKT, hr, hlocks, hnm⟩ := id C
  have hl : lv_has ls 2 [(0, .int x0), (1, .int x1)] := hl
  have hS : va_S (AE G [] s.heap.size) s.heap s.heap [] := va_S.rf
  have n_0 : (0 : Int32).toInt = 0 := rfl
  have l_0 : (0 : Int64).toInt = 0 := rfl
  have l_1000 : (1000 : Int64).toInt = 1000 := rfl
  refine lv_iload_n hx hb dX9_ratio_0 rfl (lv_at hl 1 rfl) ?_
  refine lv_if_gt (tgt := 8) hx hb dX9_ratio_1 (by decide) (fun c129 => ?_) (fun c129 => ?_)
  · have k130 := i_lt c129
    refine lv_ldc2 (v := 1000) hx hb hown (hts _ wK_X9_360) dX9_ratio_8 ?_
    refine lv_iload_n hx hb dX9_ratio_11 rfl (lv_at hl 0 rfl) ?_
    obtain ⟨y131, ey131⟩ : ∃ z : Int64, x0.toInt64 = z := ⟨_, rfl⟩
    have ty131 := j_i2l ey131
    have ry131 := i_rng x0
    refine lv_i2l (v := y131) hx hb dX9_ratio_12 ey131 ?_
    refine lv_lmul hx hb dX9_ratio_13 ?_
    refine lv_topl (fun y132 ey132 => ?_)
    refine lv_iload_n hx hb dX9_ratio_14 rfl (lv_at hl 1 rfl) ?_
    obtain ⟨y133, ey133⟩ : ∃ z : Int64, x1.toInt64 = z := ⟨_, rfl⟩
    have ty133 := j_i2l ey133
    have ry133 := i_rng x1
    refine lv_i2l (v := y133) hx hb dX9_ratio_15 ey133 ?_
    refine lv_ldiv hx hb dX9_ratio_16 (fun h => by have := congrArg Int64.toInt h; omega) ?_
    refine lv_topl (fun y134 ey134 => ?_)
    obtain ⟨x135, ex135⟩ : ∃ z : Int32, (y134 : Int64).toInt32 = z := ⟨_, rfl⟩
    refine lv_l2i (v := x135) hx hb dX9_ratio_17 ex135 ?_
    have hrl_ := rt_l ty131 ey132 ty133 ey134 ex135 (by omega) (by omega)
    have rr_ : 0 ≤ x135.toInt ∧ x135.toInt ≤ 2000000000 := by rw [hrl_]; exact rt_b (by omega) (by omega)
    exact x_iret C hQ dX9_ratio_18 hS (by decide) (by decide) (⟨x135, rfl, by omega, (by unfold rtF; rw [if_neg (by omega)]; exact hrl_), hT⟩)
  · have k130 := i_nlt c129
    refine lv_iconst (v := 0) hx hb dX9_ratio_4 (by decide) ?_
    refine lv_goto (tgt := 18) hx hb dX9_ratio_5 (by decide) ?_
    exact x_iret C hQ dX9_ratio_18 hS (by decide) (by decide) (⟨0, rfl, by decide, (by unfold rtF; rw [if_pos (by omega)]; rfl), hT⟩)

set_option maxHeartbeats 4000000 in
set_option maxRecDepth 100000 in
theorem a_X6_toneOf_v (l : Launch) (K : KE) (G : Nat → Option Nat) (H : Heap) {a0 : Nat} {a1 : Nat} (x2 : Int32) {a3 : Nat} {a4 : Nat} {a5 : Nat} {a6 : Nat} {uq : Nat} {tq : Nat} {sq : Nat} {wq : Nat} {fq : Nat} {bq : Nat} {cq : Nat} {dq : Nat} {hq : Nat} (li : Int32) (sz : Int32) (fsE : Nat → EF) (fwE : Nat → EF) (hT : TY K G H) (ga0 : G a0 = some 82) (ga1 : G a1 = some 16) (hx2 : 0 ≤ x2.toInt ∧ x2.toInt ≤ 2) (ga3 : G a3 = some 1) (ga4 : G a4 = some 2) (ga5 : G a5 = some 3) (ga6 : G a6 = some 5) (guq : G uq = some 83) (euq : uq = fR H a0 (K.1.2 6 0)) (gtq : G tq = some 84) (etq : tq = fR H a0 (K.1.2 6 1)) (gsq : G sq = some 24) (esq : sq = fR H a1 (K.1.2 7 8)) (gwq : G wq = some 17) (ewq : wq = fR H a1 (K.1.2 7 1)) (gfq : G fq = some 18) (efq : fq = fR H a1 (K.1.2 7 2)) (gbq : G bq = some 21) (ebq : bq = fR H a1 (K.1.2 7 5)) (gcq : G cq = some 22) (ecq : cq = fR H a1 (K.1.2 7 6)) (gdq : G dq = some 23) (edq : dq = fR H a1 (K.1.2 7 7)) (ghq : G hq = some 4) (ehq : hq = fR H a3 (K.1.2 0 3)) (eli : li = fI H a1 (K.1.2 7 0)) (esz : sz = fI H a3 (K.1.2 0 0)) (hy0 : ∀ l : Nat, (l : Int) < li.toInt → ∀ j : Nat, (((fI H bq l).toNatClampNeg ≤ j ∧ j < (fI H cq l).toNatClampNeg) ∨ ((fI H cq l).toNatClampNeg ≤ j ∧ j < (fI H dq l).toNatClampNeg)) → 0 ≤ (fI H sq j).toInt) (hy1 : ∀ l : Nat, (l : Int) < li.toInt → ∀ un k : Nat → Int32, vlC un (fun j => fI H sq j) k (fI H bq l).toNatClampNeg (fI H cq l).toNatClampNeg = fsE l (mkE 1 (eC un))) (hy2 : ∀ l : Nat, (l : Int) < li.toInt → (fI H cq l).toInt < (fI H dq l).toInt → ∀ un k : Nat → Int32, vlC un (fun j => fI H sq j) k (fI H cq l).toNatClampNeg (fI H dq l).toNatClampNeg = fwE l (mkE 1 (eC un))) : MX l K yX6_toneOf cX6_toneOf 10 (some .int) 3 75 0 0 [.ref a0, .ref a1, .int x2, .ref a3, .ref a4, .ref a5, .ref a6] H (AE G [83, 84] H.size) (fun v H1 => ∃ (r : Int32), v = some (.int r) ∧ (0 ≤ r.toInt ∧ r.toInt ≤ 2000000000) ∧ (r.toInt = rtF (suI (fun j : Nat => tlA H wq fq cq dq fsE fwE 0 x2.toInt li.toNatClampNeg (seE sz.toInt (j : Int) (fI H a4 j).toInt (fI H a5 j).toInt (fI H hq j).toInt (fI H a6 j).toInt)) sz.toNatClampNeg) (suI (fun j : Nat => tlA H wq fq cq dq fsE fwE 1 x2.toInt li.toNatClampNeg (seE sz.toInt (j : Int) (fI H a4 j).toInt (fI H a5 j).toInt (fI H hq j).toInt (fI H a6 j).toInt)) sz.toNatClampNeg)) ∧ TY K G H1) := by
  refine MX.of (by decide +kernel) (Nat.le_of_ble_eq_true rfl) ?_
  intro p e s m below meth c ls Q C hH hl hQ
  subst hH
  have C : CX p K s m _ meth c RX6 cX6_toneOf 10 (some .int) "toneOf" := C
  obtain ⟨hx, hb, hml, hown, hts, hKT, hr, hlocks, hnm⟩ := id C
  have hl : lv_has ls 10 [(0, .ref a0), (1, .ref a1), (2, .int x2), (3, .ref a3), (4, .ref a4), (5, .ref a5), (6, .ref a6)] := hl
  have hS : va_S (AE G [83, 84] s.heap.size) s.heap s.heap [] := va_S.rf
  have n_0 : (0 : Int32).toInt = 0 := rfl
  have n_1 : (1 : Int32).toInt = 1 := rfl
  have bli := ty_fi (x := li) (k := 0) eli hT ga1 rg_16 rfl
  have bsz := ty_fi (x := sz) (k := 0) esz hT ga3 rg_1 rfl
  have f0_s_sq : ∀ j : Nat, fI s.heap sq j = fI s.heap sq j := fun _ => rfl
  have f0_s_wq : ∀ j : Nat, fI s.heap wq j = fI s.heap wq j := fun _ => rfl
  have f0_s_fq : ∀ j : Nat, fI s.heap fq j = fI s.heap fq j := fun _ => rfl
  have f0_s_bq : ∀ j : Nat, fI s.heap bq j = fI s.heap bq j := fun _ => rfl
  have f0_s_cq : ∀ j : Nat, fI s.heap cq j = fI s.heap cq j := fun _ => rfl
  have f0_s_dq : ∀ j : Nat, fI s.heap dq j = fI s.heap dq j := fun _ => rfl
  have f0_s_hq : ∀ j : Nat, fI s.heap hq j = fI s.heap hq j := fun _ => rfl
  have f0_s_a4 : ∀ j : Nat, fI s.heap a4 j = fI s.heap a4 j := fun _ => rfl
  have f0_s_a5 : ∀ j : Nat, fI s.heap a5 j = fI s.heap a5 j := fun _ => rfl
  have f0_s_a6 : ∀ j : Nat, fI s.heap a6 j = fI s.heap a6 j := fun _ => rfl
  have J9 : ∀ (nf : Nat)  (ls2078 : Array Slot) (H2077 : Heap) (locsH2077 : List Loc) (x2080 : Int32) (x2081 : Int32) (x2082 : Int32), lv_has ls2078 10 [(0, .ref a0), (1, .ref a1), (2, .int x2), (3, .ref a3), (4, .ref a4), (5, .ref a5), (6, .ref a6), (7, .int x2080), (8, .int x2081), (9, .int x2082)] → TY K G H2077 → va_S (AE G [83, 84] s.heap.size) s.heap H2077 locsH2077 → (0 ≤ x2080.toInt ∧ x2080.toInt ≤ 1599984) → (0 ≤ x2081.toInt ∧ x2081.toInt ≤ 1599984) → (0 ≤ x2082.toInt ∧ x2082.toInt ≤ 16) → (uq = fR H2077 a0 (K.1.2 6 0)) → (tq = fR H2077 a0 (K.1.2 6 1)) → (sq = fR H2077 a1 (K.1.2 7 8)) → (wq = fR H2077 a1 (K.1.2 7 1)) → (fq = fR H2077 a1 (K.1.2 7 2)) → (bq = fR H2077 a1 (K.1.2 7 5)) → (cq = fR H2077 a1 (K.1.2 7 6)) → (dq = fR H2077 a1 (K.1.2 7 7)) → (hq = fR H2077 a3 (K.1.2 0 3)) → (li = fI H2077 a1 (K.1.2 7 0)) → (sz = fI H2077 a3 (K.1.2 0 0)) → (∀ j : Nat, fI H2077 sq j = fI s.heap sq j) → (∀ j : Nat, fI H2077 wq j = fI s.heap wq j) → (∀ j : Nat, fI H2077 fq j = fI s.heap fq j) → (∀ j : Nat, fI H2077 bq j = fI s.heap bq j) → (∀ j : Nat, fI H2077 cq j = fI s.heap cq j) → (∀ j : Nat, fI H2077 dq j = fI s.heap dq j) → (∀ j : Nat, fI H2077 hq j = fI s.heap hq j) → (∀ j : Nat, fI H2077 a4 j = fI s.heap a4 j) → (∀ j : Nat, fI H2077 a5 j = fI s.heap a5 j) → (∀ j : Nat, fI H2077 a6 j = fI s.heap a6 j) → (16 - x2082.toInt < (nf : Int)) → (0 ≤ x2080.toInt ∧ x2080.toInt ≤ 99999 * x2082.toInt ∧ 0 ≤ x2081.toInt ∧ x2081.toInt ≤ 99999 * x2082.toInt ∧ 0 ≤ x2082.toInt ∧ x2082.toInt ≤ sz.toInt) → (x2080.toInt = suI (fun j : Nat => tlA s.heap wq fq cq dq fsE fwE 0 x2.toInt li.toNatClampNeg (seE sz.toInt (j : Int) (fI s.heap a4 j).toInt (fI s.heap a5 j).toInt (fI s.heap hq j).toInt (fI s.heap a6 j).toInt)) x2082.toNatClampNeg) → (x2081.toInt = suI (fun j : Nat => tlA s.heap wq fq cq dq fsE fwE 1 x2.toInt li.toNatClampNeg (seE sz.toInt (j : Int) (fI s.heap a4 j).toInt (fI s.heap a5 j).toInt (fI s.heap hq j).toInt (fI s.heap a6 j).toInt)) x2082.toNatClampNeg) → W p l e ({ frames := 3, cells := 0, slots := 0, locals := 75 } : Room) s m (([.ref a0, .ref a1, .int x2, .ref a3, .ref a4, .ref a5, .ref a6] : List Value).toArray) below meth c H2077 locsH2077 0 0 Q (F0 m 9 ls2078 []) := by
    intro nf
    induction nf with
    | zero =>
      intro  ls2078 H2077 locsH2077 x2080 x2081 x2082 hl2079 hTH2077 hSH2077 bx2080 bx2081 bx2082 cy2083_0 cy2083_1 cy2083_2 cy2083_3 cy2083_4 cy2083_5 cy2083_6 cy2083_7 cy2083_8 cy2083_9 cy2083_10 fy2083_s_sq fy2083_s_wq fy2083_s_fq fy2083_s_bq fy2083_s_cq fy2083_s_dq fy2083_s_hq fy2083_s_a4 fy2083_s_a5 fy2083_s_a6 hm9 iv9 hsb9 hsm9
      exfalso
      omega
    | succ nf ih9 =>
      intro  ls2078 H2077 locsH2077 x2080 x2081 x2082 hl2079 hTH2077 hSH2077 bx2080 bx2081 bx2082 cy2083_0 cy2083_1 cy2083_2 cy2083_3 cy2083_4 cy2083_5 cy2083_6 cy2083_7 cy2083_8 cy2083_9 cy2083_10 fy2083_s_sq fy2083_s_wq fy2083_s_fq fy2083_s_bq fy2083_s_cq fy2083_s_dq fy2083_s_hq fy2083_s_a4 fy2083_s_a5 fy2083_s_a6 hm9 iv9 hsb9 hsm9
      refine lv_iload hx hb dX6_toneOf_9 (lv_at hl2079 9 rfl) ?_
      refine lv_aload_n hx hb dX6_toneOf_11 rfl (lv_at hl2079 3 rfl) ?_
      refine x_gi C hTH2077 (ci := 0) (k := 0) rfl inX0 (by decide) wF_X6_18 ga3 rg_1 rfl dX6_toneOf_12 (fun x2084 ex2084 bx2084 => ?_)
      have ux2084 : sz = x2084 := (cy2083_10).trans ex2084.symm
      subst ux2084
      refine lv_icmp_ge (tgt := 70) hx hb dX6_toneOf_15 (by decide) (fun c2085 => ?_) (fun c2085 => ?_)
      · have k2086 := i_le c2085
        refine lv_iload hx hb dX6_toneOf_70 (lv_at hl2079 7 rfl) ?_
        refine lv_iload hx hb dX6_toneOf_72 (lv_at hl2079 8 rfl) ?_
        refine x_SN (As := [.int x2080, .int x2081]) (rest := []) C (a_X9_ratio_v l K G H2077 (x2080) (x2081) hTH2077 (by omega) (by omega)) yo_X9_ratio wN_X6_82 ⟨⟨by decide, by decide⟩, by decide, by decide⟩ rfl hl2079.1 rfl (Nat.le_of_ble_eq_true rfl) dX6_toneOf_74 hSH2077 (AE_sub (fun _ _ => rfl) (by decide) hSH2077.1) (fun vH2087 H2087 locsH2087 pH2087 zH2087 kH2087 hSH2087 => ?_)
        obtain ⟨x2088, hvH2087, bx2088, m2089, hTH2087⟩ := pH2087
        subst hvH2087
        have f2090 : ∀ j : Nat, fI H2087 sq j = fI s.heap sq j := fun j => (fI_kept (x_lt hTH2077 kH2087 gsq (by decide))).trans (fy2083_s_sq j)
        have f2091 : ∀ j : Nat, fI H2087 wq j = fI s.heap wq j := fun j => (fI_kept (x_lt hTH2077 kH2087 gwq (by decide))).trans (fy2083_s_wq j)
        have f2092 : ∀ j : Nat, fI H2087 fq j = fI s.heap fq j := fun j => (fI_kept (x_lt hTH2077 kH2087 gfq (by decide))).trans (fy2083_s_fq j)
        have f2093 : ∀ j : Nat, fI H2087 bq j = fI s.heap bq j := fun j => (fI_kept (x_lt hTH2077 kH2087 gbq (by decide))).trans (fy2083_s_bq j)
        have f2094 : ∀ j : Nat, fI H2087 cq j = fI s.heap cq j := fun j => (fI_kept (x_lt hTH2077 kH2087 gcq (by decide))).trans (fy2083_s_cq j)
        have f2095 : ∀ j : Nat, fI H2087 dq j = fI s.heap dq j := fun j => (fI_kept (x_lt hTH2077 kH2087 gdq (by decide))).trans (fy2083_s_dq j)
        have f2096 : ∀ j : Nat, fI H2087 hq j = fI s.heap hq j := fun j => (fI_kept (x_lt hTH2077 kH2087 ghq (by decide))).trans (fy2083_s_hq j)
        have f2097 : ∀ j : Nat, fI H2087 a4 j = fI s.heap a4 j := fun j => (fI_kept (x_lt hTH2077 kH2087 ga4 (by decide))).trans (fy2083_s_a4 j)
        have f2098 : ∀ j : Nat, fI H2087 a5 j = fI s.heap a5 j := fun j => (fI_kept (x_lt hTH2077 kH2087 ga5 (by decide))).trans (fy2083_s_a5 j)
        have f2099 : ∀ j : Nat, fI H2087 a6 j = fI s.heap a6 j := fun j => (fI_kept (x_lt hTH2077 kH2087 ga6 (by decide))).trans (fy2083_s_a6 j)
        have m2100 := (cy2083_0).trans (fR_kept (x_lt hTH2077 kH2087 ga0 (by decide))).symm
        have m2101 := (cy2083_1).trans (fR_kept (x_lt hTH2077 kH2087 ga0 (by decide))).symm
        have m2102 := (cy2083_2).trans (fR_kept (x_lt hTH2077 kH2087 ga1 (by decide))).symm
        have m2103 := (cy2083_3).trans (fR_kept (x_lt hTH2077 kH2087 ga1 (by decide))).symm
        have m2104 := (cy2083_4).trans (fR_kept (x_lt hTH2077 kH2087 ga1 (by decide))).symm
        have m2105 := (cy2083_5).trans (fR_kept (x_lt hTH2077 kH2087 ga1 (by decide))).symm
        have m2106 := (cy2083_6).trans (fR_kept (x_lt hTH2077 kH2087 ga1 (by decide))).symm
        have m2107 := (cy2083_7).trans (fR_kept (x_lt hTH2077 kH2087 ga1 (by decide))).symm
        have m2108 := (cy2083_8).trans (fR_kept (x_lt hTH2077 kH2087 ga3 (by decide))).symm
        have m2109 := (cy2083_9).trans (fI_kept (x_lt hTH2077 kH2087 ga1 (by decide))).symm
        have m2110 := (cy2083_10).trans (fI_kept (x_lt hTH2077 kH2087 ga3 (by decide))).symm
        refine W.eq (g2 := F0 m 77 ls2078 [.int x2088]) rfl ?_
        have cn_x2082 := i_cl (x := x2082) (by omega)
        have cn_sz := i_cl (x := sz) (by omega)
        exact x_iret C hQ dX6_toneOf_77 hSH2087 (by decide) (by decide) (⟨x2088, rfl, by omega, (by rw [m2089, hsb9, hsm9, show x2082.toNatClampNeg = sz.toNatClampNeg by omega]), hTH2087⟩)
      · have k2086 := i_nle c2085
        refine lv_aload_n hx hb dX6_toneOf_18 rfl (lv_at hl2079 0 rfl) ?_
        refine lv_aload_n hx hb dX6_toneOf_19 rfl (lv_at hl2079 3 rfl) ?_
        refine lv_iload hx hb dX6_toneOf_20 (lv_at hl2079 9 rfl) ?_
        refine lv_aload hx hb dX6_toneOf_22 (lv_at hl2079 4 rfl) ?_
        refine lv_iload hx hb dX6_toneOf_24 (lv_at hl2079 9 rfl) ?_
        refine x_ai C hTH2077 ga4 rg_2 ⟨by omega, by show _ < ((16 : Nat) : Int); omega⟩ dX6_toneOf_26 (fun x2111 ex2111 bx2111 => ?_)
        refine lv_aload hx hb dX6_toneOf_27 (lv_at hl2079 5 rfl) ?_
        refine lv_iload hx hb dX6_toneOf_29 (lv_at hl2079 9 rfl) ?_
        refine x_ai C hTH2077 ga5 rg_3 ⟨by omega, by show _ < ((16 : Nat) : Int); omega⟩ dX6_toneOf_31 (fun x2112 ex2112 bx2112 => ?_)
        refine lv_aload hx hb dX6_toneOf_32 (lv_at hl2079 6 rfl) ?_
        refine lv_iload hx hb dX6_toneOf_34 (lv_at hl2079 9 rfl) ?_
        refine x_ai C hTH2077 ga6 rg_5 ⟨by omega, by show _ < ((16 : Nat) : Int); omega⟩ dX6_toneOf_36 (fun x2113 ex2113 bx2113 => ?_)
        refine x_V (As := [.ref a3, .int x2082, .int x2111, .int x2112, .int x2113]) (rest := []) C (a_X6_seeSlice_v l K G H2077 (x2082) (x2111) (x2112) (x2113) (sz) hTH2077 ga0 ga3 (by omega) guq cy2083_0 ghq cy2083_8 cy2083_10) yo_X6_seeSlice wM_X6_75 ⟨⟨by decide, by decide⟩, by decide, by decide⟩ (x_rv C hTH2077 (ci := 6) rfl ga0 rg_82) rfl hl2079.1 rfl (Nat.le_of_ble_eq_true rfl) dX6_toneOf_37 hSH2077 (AE_sub (fun _ _ => rfl) (by decide) hSH2077.1) (fun vH2114 H2114 locsH2114 pH2114 zH2114 kH2114 hSH2114 => ?_)
        obtain ⟨hvH2114, m2115, hTH2114⟩ := pH2114
        subst hvH2114
        have f2116 : ∀ j : Nat, fI H2114 sq j = fI s.heap sq j := fun j => (fI_kept (x_lt hTH2077 kH2114 gsq (by decide))).trans (fy2083_s_sq j)
        have f2117 : ∀ j : Nat, fI H2114 wq j = fI s.heap wq j := fun j => (fI_kept (x_lt hTH2077 kH2114 gwq (by decide))).trans (fy2083_s_wq j)
        have f2118 : ∀ j : Nat, fI H2114 fq j = fI s.heap fq j := fun j => (fI_kept (x_lt hTH2077 kH2114 gfq (by decide))).trans (fy2083_s_fq j)
        have f2119 : ∀ j : Nat, fI H2114 bq j = fI s.heap bq j := fun j => (fI_kept (x_lt hTH2077 kH2114 gbq (by decide))).trans (fy2083_s_bq j)
        have f2120 : ∀ j : Nat, fI H2114 cq j = fI s.heap cq j := fun j => (fI_kept (x_lt hTH2077 kH2114 gcq (by decide))).trans (fy2083_s_cq j)
        have f2121 : ∀ j : Nat, fI H2114 dq j = fI s.heap dq j := fun j => (fI_kept (x_lt hTH2077 kH2114 gdq (by decide))).trans (fy2083_s_dq j)
        have f2122 : ∀ j : Nat, fI H2114 hq j = fI s.heap hq j := fun j => (fI_kept (x_lt hTH2077 kH2114 ghq (by decide))).trans (fy2083_s_hq j)
        have f2123 : ∀ j : Nat, fI H2114 a4 j = fI s.heap a4 j := fun j => (fI_kept (x_lt hTH2077 kH2114 ga4 (by decide))).trans (fy2083_s_a4 j)
        have f2124 : ∀ j : Nat, fI H2114 a5 j = fI s.heap a5 j := fun j => (fI_kept (x_lt hTH2077 kH2114 ga5 (by decide))).trans (fy2083_s_a5 j)
        have f2125 : ∀ j : Nat, fI H2114 a6 j = fI s.heap a6 j := fun j => (fI_kept (x_lt hTH2077 kH2114 ga6 (by decide))).trans (fy2083_s_a6 j)
        have m2126 := (cy2083_0).trans (fR_kept (x_lt hTH2077 kH2114 ga0 (by decide))).symm
        have m2127 := (cy2083_1).trans (fR_kept (x_lt hTH2077 kH2114 ga0 (by decide))).symm
        have m2128 := (cy2083_2).trans (fR_kept (x_lt hTH2077 kH2114 ga1 (by decide))).symm
        have m2129 := (cy2083_3).trans (fR_kept (x_lt hTH2077 kH2114 ga1 (by decide))).symm
        have m2130 := (cy2083_4).trans (fR_kept (x_lt hTH2077 kH2114 ga1 (by decide))).symm
        have m2131 := (cy2083_5).trans (fR_kept (x_lt hTH2077 kH2114 ga1 (by decide))).symm
        have m2132 := (cy2083_6).trans (fR_kept (x_lt hTH2077 kH2114 ga1 (by decide))).symm
        have m2133 := (cy2083_7).trans (fR_kept (x_lt hTH2077 kH2114 ga1 (by decide))).symm
        have m2134 := (cy2083_8).trans (fR_kept (x_lt hTH2077 kH2114 ga3 (by decide))).symm
        have m2135 := (cy2083_9).trans (fI_kept (x_lt hTH2077 kH2114 ga1 (by decide))).symm
        have m2136 := (cy2083_10).trans (fI_kept (x_lt hTH2077 kH2114 ga3 (by decide))).symm
        have m2137 := (ex2111).trans (fI_kept (x_lt hTH2077 kH2114 ga4 (by decide))).symm
        have m2138 := (ex2112).trans (fI_kept (x_lt hTH2077 kH2114 ga5 (by decide))).symm
        have m2139 := (ex2113).trans (fI_kept (x_lt hTH2077 kH2114 ga6 (by decide))).symm
        have cn_x2082 := i_cl (x := x2082) (by omega)
        have se2140 : mkE 1 (eC (fun j => fI H2114 uq j)) = (seE sz.toInt ((x2082.toNatClampNeg : Nat) : Int) (fI s.heap a4 x2082.toNatClampNeg).toInt (fI s.heap a5 x2082.toNatClampNeg).toInt (fI s.heap hq x2082.toNatClampNeg).toInt (fI s.heap a6 x2082.toNatClampNeg).toInt) := by
          have z := m2115
          rw [show x2111 = fI s.heap a4 x2082.toNatClampNeg from ex2111.trans (fy2083_s_a4 _), show x2112 = fI s.heap a5 x2082.toNatClampNeg from ex2112.trans (fy2083_s_a5 _), show x2113 = fI s.heap a6 x2082.toNatClampNeg from ex2113.trans (fy2083_s_a6 _), fy2083_s_hq x2082.toNatClampNeg, show x2082.toInt = ((x2082.toNatClampNeg : Nat) : Int) by omega] at z
          exact se_cls z
        refine W.eq (g2 := F0 m 40 ls2078 []) rfl ?_
        refine lv_iload hx hb dX6_toneOf_40 (lv_at hl2079 7 rfl) ?_
        refine lv_aload_n hx hb dX6_toneOf_42 rfl (lv_at hl2079 0 rfl) ?_
        refine lv_aload_n hx hb dX6_toneOf_43 rfl (lv_at hl2079 1 rfl) ?_
        refine lv_iconst (v := 0) hx hb dX6_toneOf_44 (by decide) ?_
        refine lv_iload_n hx hb dX6_toneOf_45 rfl (lv_at hl2079 2 rfl) ?_
        refine x_V (As := [.ref a1, .int 0, .int x2]) (rest := [.int x2080]) C (a_X6_told_v l K G H2114 (0) (x2) (li) ((fun l => fsE l (seE sz.toInt ((x2082.toNatClampNeg : Nat) : Int) (fI s.heap a4 x2082.toNatClampNeg).toInt (fI s.heap a5 x2082.toNatClampNeg).toInt (fI s.heap hq x2082.toNatClampNeg).toInt (fI s.heap a6 x2082.toNatClampNeg).toInt))) ((fun l => fwE l (seE sz.toInt ((x2082.toNatClampNeg : Nat) : Int) (fI s.heap a4 x2082.toNatClampNeg).toInt (fI s.heap a5 x2082.toNatClampNeg).toInt (fI s.heap hq x2082.toNatClampNeg).toInt (fI s.heap a6 x2082.toNatClampNeg).toInt))) hTH2114 ga0 ga1 guq m2126 gtq m2127 gsq m2128 gwq m2129 gfq m2130 gbq m2131 gcq m2132 gdq m2133 m2135 (fun l hl j hj => by rw [f2119 l, f2120 l, f2121 l] at hj; rw [f2116 j]; exact hy0 l hl j hj) (tl_hy hy1 f2116 f2119 f2120 se2140) (tl_hw hy2 f2116 f2120 f2121 se2140)) yo_X6_told wM_X6_79 ⟨⟨by decide, by decide⟩, by decide, by decide⟩ (x_rv C hTH2114 (ci := 6) rfl ga0 rg_82) rfl hl2079.1 rfl (Nat.le_of_ble_eq_true rfl) dX6_toneOf_46 hSH2114 (AE_sub (fun _ _ => rfl) (by decide) hSH2114.1) (fun vH2141 H2141 locsH2141 pH2141 zH2141 kH2141 hSH2141 => ?_)
        obtain ⟨x2142, hvH2141, m2143, hTH2141⟩ := pH2141
        subst hvH2141
        have f2144 : ∀ j : Nat, fI H2141 sq j = fI s.heap sq j := fun j => (fI_kept (x_lt hTH2114 kH2141 gsq (by decide))).trans (f2116 j)
        have f2145 : ∀ j : Nat, fI H2141 wq j = fI s.heap wq j := fun j => (fI_kept (x_lt hTH2114 kH2141 gwq (by decide))).trans (f2117 j)
        have f2146 : ∀ j : Nat, fI H2141 fq j = fI s.heap fq j := fun j => (fI_kept (x_lt hTH2114 kH2141 gfq (by decide))).trans (f2118 j)
        have f2147 : ∀ j : Nat, fI H2141 bq j = fI s.heap bq j := fun j => (fI_kept (x_lt hTH2114 kH2141 gbq (by decide))).trans (f2119 j)
        have f2148 : ∀ j : Nat, fI H2141 cq j = fI s.heap cq j := fun j => (fI_kept (x_lt hTH2114 kH2141 gcq (by decide))).trans (f2120 j)
        have f2149 : ∀ j : Nat, fI H2141 dq j = fI s.heap dq j := fun j => (fI_kept (x_lt hTH2114 kH2141 gdq (by decide))).trans (f2121 j)
        have f2150 : ∀ j : Nat, fI H2141 hq j = fI s.heap hq j := fun j => (fI_kept (x_lt hTH2114 kH2141 ghq (by decide))).trans (f2122 j)
        have f2151 : ∀ j : Nat, fI H2141 a4 j = fI s.heap a4 j := fun j => (fI_kept (x_lt hTH2114 kH2141 ga4 (by decide))).trans (f2123 j)
        have f2152 : ∀ j : Nat, fI H2141 a5 j = fI s.heap a5 j := fun j => (fI_kept (x_lt hTH2114 kH2141 ga5 (by decide))).trans (f2124 j)
        have f2153 : ∀ j : Nat, fI H2141 a6 j = fI s.heap a6 j := fun j => (fI_kept (x_lt hTH2114 kH2141 ga6 (by decide))).trans (f2125 j)
        have m2154 := (m2126).trans (fR_kept (x_lt hTH2114 kH2141 ga0 (by decide))).symm
        have m2155 := (m2127).trans (fR_kept (x_lt hTH2114 kH2141 ga0 (by decide))).symm
        have m2156 := (m2128).trans (fR_kept (x_lt hTH2114 kH2141 ga1 (by decide))).symm
        have m2157 := (m2129).trans (fR_kept (x_lt hTH2114 kH2141 ga1 (by decide))).symm
        have m2158 := (m2130).trans (fR_kept (x_lt hTH2114 kH2141 ga1 (by decide))).symm
        have m2159 := (m2131).trans (fR_kept (x_lt hTH2114 kH2141 ga1 (by decide))).symm
        have m2160 := (m2132).trans (fR_kept (x_lt hTH2114 kH2141 ga1 (by decide))).symm
        have m2161 := (m2133).trans (fR_kept (x_lt hTH2114 kH2141 ga1 (by decide))).symm
        have m2162 := (m2134).trans (fR_kept (x_lt hTH2114 kH2141 ga3 (by decide))).symm
        have m2163 := (m2135).trans (fI_kept (x_lt hTH2114 kH2141 ga1 (by decide))).symm
        have m2164 := (m2136).trans (fI_kept (x_lt hTH2114 kH2141 ga3 (by decide))).symm
        have m2165 := (m2137).trans (fI_kept (x_lt hTH2114 kH2141 ga4 (by decide))).symm
        have m2166 := (m2138).trans (fI_kept (x_lt hTH2114 kH2141 ga5 (by decide))).symm
        have m2167 := (m2139).trans (fI_kept (x_lt hTH2114 kH2141 ga6 (by decide))).symm
        have hb2168 : x2142.toInt = (fun j : Nat => tlA s.heap wq fq cq dq fsE fwE 0 x2.toInt li.toNatClampNeg (seE sz.toInt (j : Int) (fI s.heap a4 j).toInt (fI s.heap a5 j).toInt (fI s.heap hq j).toInt (fI s.heap a6 j).toInt)) x2082.toNatClampNeg := by rw [m2143, tdA_congr f2117 f2118 f2120 f2121]; rfl
        have rhb2168 : 0 ≤ x2142.toInt ∧ x2142.toInt ≤ 99999 := by rw [hb2168]; exact tlA_r (by decide)
        have se2169 : mkE 1 (eC (fun j => fI H2141 uq j)) = (seE sz.toInt ((x2082.toNatClampNeg : Nat) : Int) (fI s.heap a4 x2082.toNatClampNeg).toInt (fI s.heap a5 x2082.toNatClampNeg).toInt (fI s.heap hq x2082.toNatClampNeg).toInt (fI s.heap a6 x2082.toNatClampNeg).toInt) := by
          rw [show (fun j => fI H2141 uq j) = (fun j => fI H2114 uq j) from funext fun j => fI_kept (x_lt hTH2114 kH2141 guq (by decide))]
          exact se2140
        refine W.eq (g2 := F0 m 49 ls2078 [.int x2142, .int x2080]) rfl ?_
        refine lv_iadd hx hb dX6_toneOf_49 ?_
        refine lv_topi (fun x2170 ex2170 => ?_)
        have tx2170 := i_add ex2170 (by omega)
        refine lv_istore (lv' := [(7, .int x2170), (0, .ref a0), (1, .ref a1), (2, .int x2), (3, .ref a3), (4, .ref a4), (5, .ref a5), (6, .ref a6), (8, .int x2081), (9, .int x2082)]) hx hb dX6_toneOf_50 hl2079 (by decide) rfl (fun ls2171 hl2172 => ?_)
        refine lv_iload hx hb dX6_toneOf_52 (lv_at hl2172 8 rfl) ?_
        refine lv_aload_n hx hb dX6_toneOf_54 rfl (lv_at hl2172 1 rfl) ?_
        refine lv_aload_n hx hb dX6_toneOf_55 rfl (lv_at hl2172 2 rfl) ?_
        refine lv_iconst (v := 1) hx hb dX6_toneOf_56 (by decide) ?_
        refine lv_iload_n hx hb dX6_toneOf_57 rfl (lv_at hl2172 3 rfl) ?_
        refine x_V (As := [.ref a1, .int 1, .int x2]) (rest := [.int x2081]) C (a_X6_told_v l K G H2141 (1) (x2) (li) ((fun l => fsE l (seE sz.toInt ((x2082.toNatClampNeg : Nat) : Int) (fI s.heap a4 x2082.toNatClampNeg).toInt (fI s.heap a5 x2082.toNatClampNeg).toInt (fI s.heap hq x2082.toNatClampNeg).toInt (fI s.heap a6 x2082.toNatClampNeg).toInt))) ((fun l => fwE l (seE sz.toInt ((x2082.toNatClampNeg : Nat) : Int) (fI s.heap a4 x2082.toNatClampNeg).toInt (fI s.heap a5 x2082.toNatClampNeg).toInt (fI s.heap hq x2082.toNatClampNeg).toInt (fI s.heap a6 x2082.toNatClampNeg).toInt))) hTH2141 ga0 ga1 guq m2154 gtq m2155 gsq m2156 gwq m2157 gfq m2158 gbq m2159 gcq m2160 gdq m2161 m2163 (fun l hl j hj => by rw [f2147 l, f2148 l, f2149 l] at hj; rw [f2144 j]; exact hy0 l hl j hj) (tl_hy hy1 f2144 f2147 f2148 se2169) (tl_hw hy2 f2144 f2148 f2149 se2169)) yo_X6_told wM_X6_79 ⟨⟨by decide, by decide⟩, by decide, by decide⟩ (x_rv C hTH2141 (ci := 6) rfl ga0 rg_82) rfl hl2172.1 rfl (Nat.le_of_ble_eq_true rfl) dX6_toneOf_58 hSH2141 (AE_sub (fun _ _ => rfl) (by decide) hSH2141.1) (fun vH2173 H2173 locsH2173 pH2173 zH2173 kH2173 hSH2173 => ?_)
        obtain ⟨x2174, hvH2173, m2175, hTH2173⟩ := pH2173
        subst hvH2173
        have f2176 : ∀ j : Nat, fI H2173 sq j = fI s.heap sq j := fun j => (fI_kept (x_lt hTH2141 kH2173 gsq (by decide))).trans (f2144 j)
        have f2177 : ∀ j : Nat, fI H2173 wq j = fI s.heap wq j := fun j => (fI_kept (x_lt hTH2141 kH2173 gwq (by decide))).trans (f2145 j)
        have f2178 : ∀ j : Nat, fI H2173 fq j = fI s.heap fq j := fun j => (fI_kept (x_lt hTH2141 kH2173 gfq (by decide))).trans (f2146 j)
        have f2179 : ∀ j : Nat, fI H2173 bq j = fI s.heap bq j := fun j => (fI_kept (x_lt hTH2141 kH2173 gbq (by decide))).trans (f2147 j)
        have f2180 : ∀ j : Nat, fI H2173 cq j = fI s.heap cq j := fun j => (fI_kept (x_lt hTH2141 kH2173 gcq (by decide))).trans (f2148 j)
        have f2181 : ∀ j : Nat, fI H2173 dq j = fI s.heap dq j := fun j => (fI_kept (x_lt hTH2141 kH2173 gdq (by decide))).trans (f2149 j)
        have f2182 : ∀ j : Nat, fI H2173 hq j = fI s.heap hq j := fun j => (fI_kept (x_lt hTH2141 kH2173 ghq (by decide))).trans (f2150 j)
        have f2183 : ∀ j : Nat, fI H2173 a4 j = fI s.heap a4 j := fun j => (fI_kept (x_lt hTH2141 kH2173 ga4 (by decide))).trans (f2151 j)
        have f2184 : ∀ j : Nat, fI H2173 a5 j = fI s.heap a5 j := fun j => (fI_kept (x_lt hTH2141 kH2173 ga5 (by decide))).trans (f2152 j)
        have f2185 : ∀ j : Nat, fI H2173 a6 j = fI s.heap a6 j := fun j => (fI_kept (x_lt hTH2141 kH2173 ga6 (by decide))).trans (f2153 j)
        have m2186 := (m2154).trans (fR_kept (x_lt hTH2141 kH2173 ga0 (by decide))).symm
        have m2187 := (m2155).trans (fR_kept (x_lt hTH2141 kH2173 ga0 (by decide))).symm
        have m2188 := (m2156).trans (fR_kept (x_lt hTH2141 kH2173 ga1 (by decide))).symm
        have m2189 := (m2157).trans (fR_kept (x_lt hTH2141 kH2173 ga1 (by decide))).symm
        have m2190 := (m2158).trans (fR_kept (x_lt hTH2141 kH2173 ga1 (by decide))).symm
        have m2191 := (m2159).trans (fR_kept (x_lt hTH2141 kH2173 ga1 (by decide))).symm
        have m2192 := (m2160).trans (fR_kept (x_lt hTH2141 kH2173 ga1 (by decide))).symm
        have m2193 := (m2161).trans (fR_kept (x_lt hTH2141 kH2173 ga1 (by decide))).symm
        have m2194 := (m2162).trans (fR_kept (x_lt hTH2141 kH2173 ga3 (by decide))).symm
        have m2195 := (m2163).trans (fI_kept (x_lt hTH2141 kH2173 ga1 (by decide))).symm
        have m2196 := (m2164).trans (fI_kept (x_lt hTH2141 kH2173 ga3 (by decide))).symm
        have m2197 := (m2165).trans (fI_kept (x_lt hTH2141 kH2173 ga4 (by decide))).symm
        have m2198 := (m2166).trans (fI_kept (x_lt hTH2141 kH2173 ga5 (by decide))).symm
        have m2199 := (m2167).trans (fI_kept (x_lt hTH2141 kH2173 ga6 (by decide))).symm
        have hb2200 : x2174.toInt = (fun j : Nat => tlA s.heap wq fq cq dq fsE fwE 1 x2.toInt li.toNatClampNeg (seE sz.toInt (j : Int) (fI s.heap a4 j).toInt (fI s.heap a5 j).toInt (fI s.heap hq j).toInt (fI s.heap a6 j).toInt)) x2082.toNatClampNeg := by rw [m2175, tdA_congr f2145 f2146 f2148 f2149]; rfl
        have rhb2200 : 0 ≤ x2174.toInt ∧ x2174.toInt ≤ 99999 := by rw [hb2200]; exact tlA_r (by decide)
        have se2201 : mkE 1 (eC (fun j => fI H2173 uq j)) = (seE sz.toInt ((x2082.toNatClampNeg : Nat) : Int) (fI s.heap a4 x2082.toNatClampNeg).toInt (fI s.heap a5 x2082.toNatClampNeg).toInt (fI s.heap hq x2082.toNatClampNeg).toInt (fI s.heap a6 x2082.toNatClampNeg).toInt) := by
          rw [show (fun j => fI H2173 uq j) = (fun j => fI H2141 uq j) from funext fun j => fI_kept (x_lt hTH2141 kH2173 guq (by decide))]
          exact se2169
        refine W.eq (g2 := F0 m 61 ls2171 [.int x2174, .int x2081]) rfl ?_
        refine lv_iadd hx hb dX6_toneOf_61 ?_
        refine lv_topi (fun x2202 ex2202 => ?_)
        have tx2202 := i_add ex2202 (by omega)
        refine lv_istore (lv' := [(8, .int x2202), (7, .int x2170), (0, .ref a0), (1, .ref a1), (2, .int x2), (3, .ref a3), (4, .ref a4), (5, .ref a5), (6, .ref a6), (9, .int x2082)]) hx hb dX6_toneOf_62 hl2172 (by decide) rfl (fun ls2203 hl2204 => ?_)
        obtain ⟨x2205, ex2205⟩ : ∃ y : Int32, y = x2082 + 1 := ⟨_, rfl⟩
        have tx2205 := i_add ex2205 (by omega)
        refine lv_iinc (v := x2205) (lv' := [(9, .int x2205), (8, .int x2202), (7, .int x2170), (0, .ref a0), (1, .ref a1), (2, .int x2), (3, .ref a3), (4, .ref a4), (5, .ref a5), (6, .ref a6)]) hx hb dX6_toneOf_64 hl2204 (k := 9) rfl (by rw [ex2205]; rfl) (by decide) rfl (fun ls2206 hl2207 => ?_)
        refine lv_goto (tgt := 9) hx hb dX6_toneOf_67 (by decide) ?_
        have cn_x2205 := i_cl (x := x2205) (by omega)
        have cn_x2082 := i_cl (x := x2082) (by omega)
        exact ih9  ls2206 H2173 locsH2173 (x2170) (x2202) (x2205) (lv_sub hl2207 [3, 4, 5, 6, 7, 8, 9, 2, 1, 0] rfl) hTH2173 hSH2173 (by have := i_rng x2170; omega) (by have := i_rng x2202; omega) (by have := i_rng x2205; omega) m2186 m2187 m2188 m2189 m2190 m2191 m2192 m2193 m2194 m2195 m2196 f2176 f2177 f2178 f2179 f2180 f2181 f2182 f2183 f2184 f2185 (by omega) (by omega) (by rw [suI_s (n := x2082.toNatClampNeg) (by omega)]; show _ = _ + (fun j : Nat => tlA s.heap wq fq cq dq fsE fwE 0 x2.toInt li.toNatClampNeg (seE sz.toInt (j : Int) (fI s.heap a4 j).toInt (fI s.heap a5 j).toInt (fI s.heap hq j).toInt (fI s.heap a6 j).toInt)) x2082.toNatClampNeg; rw [← hsb9, ← hb2168]; omega) (by rw [suI_s (n := x2082.toNatClampNeg) (by omega)]; show _ = _ + (fun j : Nat => tlA s.heap wq fq cq dq fsE fwE 1 x2.toInt li.toNatClampNeg (seE sz.toInt (j : Int) (fI s.heap a4 j).toInt (fI s.heap a5 j).toInt (fI s.heap hq j).toInt (fI s.heap a6 j).toInt)) x2082.toNatClampNeg; rw [← hsm9, ← hb2200]; omega)
  refine lv_iconst (v := 0) hx hb dX6_toneOf_0 (by decide) ?_
  refine lv_istore (lv' := [(7, .int 0), (0, .ref a0), (1, .ref a1), (2, .int x2), (3, .ref a3), (4, .ref a4), (5, .ref a5), (6, .ref a6)]) hx hb dX6_toneOf_1 hl (by decide) rfl (fun ls2208 hl2209 => ?_)
  refine lv_iconst (v := 0) hx hb dX6_toneOf_3 (by decide) ?_
  refine lv_istore (lv' := [(8, .int 0), (7, .int 0), (0, .ref a0), (1, .ref a1), (2, .int x2), (3, .ref a3), (4, .ref a4), (5, .ref a5), (6, .ref a6)]) hx hb dX6_toneOf_4 hl2209 (by decide) rfl (fun ls2210 hl2211 => ?_)
  refine lv_iconst (v := 0) hx hb dX6_toneOf_6 (by decide) ?_
  refine lv_istore (lv' := [(9, .int 0), (8, .int 0), (7, .int 0), (0, .ref a0), (1, .ref a1), (2, .int x2), (3, .ref a3), (4, .ref a4), (5, .ref a5), (6, .ref a6)]) hx hb dX6_toneOf_7 hl2211 (by decide) rfl (fun ls2212 hl2213 => ?_)
  exact J9 ((16 - (0 : Int32).toInt).toNat + 1)  ls2212 s.heap [] (0) (0) (0) (lv_sub hl2213 [3, 4, 5, 6, 7, 8, 9, 2, 1, 0] rfl) hT hS (by decide) (by decide) (by decide) euq etq esq ewq efq ebq ecq edq ehq eli esz f0_s_sq f0_s_wq f0_s_fq f0_s_bq f0_s_cq f0_s_dq f0_s_hq f0_s_a4 f0_s_a5 f0_s_a6 (by omega) (by omega) (by rfl) (by rfl)
