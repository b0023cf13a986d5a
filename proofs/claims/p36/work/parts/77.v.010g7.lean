/-! ===== tones, of the reference's arrays ===== -/
def tlB (H : Heap) (wq jq nq tq : Nat) (fsE fwE : Nat → EF) (w k : Int) (lm lo : Nat) (e : Nat → Int32) : Int := tdB H wq jq nq tq (fun l => fsE l e) (fun l => fwE l e) w k lm lo
theorem tdG_r {wd fi : Nat → Int} {hw : Nat → Bool} {fs fw : Nat → Int32} {w t : Int} (h : w ≤ 1) : ∀ f l : Nat, 0 ≤ tdG wd fi hw fs fw w t f l ∧ tdG wd fi hw fs fw w t f l ≤ 99999
  | 0, _ => by show (0 : Int) ≤ 0 ∧ (0 : Int) ≤ 99999; omega
  | f + 1, l => by
    by_cases c : wd l = w ∧ (w = 3 ∨ fi l = t) ∧ (hw l = false ∨ fw l ≠ 0)
    · rw [show tdG wd fi hw fs fw w t (f + 1) l = clT w (fs l).toInt from if_pos c]
      exact clT_r h
    · rw [show tdG wd fi hw fs fw w t (f + 1) l = tdG wd fi hw fs fw w t f (l + 1) from if_neg c]
      exact tdG_r h f (l + 1)
theorem tlB_r {H : Heap} {wq jq nq tq : Nat} {fsE fwE : Nat → EF} {w k : Int} {lm lo : Nat} {e : Nat → Int32} (h : w ≤ 1) : 0 ≤ tlB H wq jq nq tq fsE fwE w k lm lo e ∧ tlB H wq jq nq tq fsE fwE w k lm lo e ≤ 99999 := tdG_r h _ _
theorem tdB_congr {H H1 : Heap} {wq jq nq tq : Nat} {fs fw : Nat → Int32} {w t : Int} {f l : Nat} (e1 : ∀ j, fI H1 wq j = fI H wq j) (e2 : ∀ j, fI H1 jq j = fI H jq j) (e3 : ∀ j, fI H1 nq j = fI H nq j) (e4 : ∀ j, fI H1 tq j = fI H tq j) : tdB H1 wq jq nq tq fs fw w t f l = tdB H wq jq nq tq fs fw w t f l := by
  unfold tdB
  rw [show (fun j => (fI H1 wq j).toInt) = (fun j => (fI H wq j).toInt) from funext fun j => congrArg Int32.toInt (e1 j), show (fun j => (fI H1 jq j).toInt) = (fun j => (fI H jq j).toInt) from funext fun j => congrArg Int32.toInt (e2 j), show (fun j => decide ((fI H1 nq j).toInt ≠ (fI H1 tq j).toInt)) = (fun j => decide ((fI H nq j).toInt ≠ (fI H tq j).toInt)) from funext fun j => by rw [e3 j, e4 j]]
theorem tr_hs {as O O1 A A1 p p1 q q1 : Nat → Int32} {lw : Int} {b lo hi : Nat} {f : Nat → EF} {e : Nat → Int32} (h : ∀ l : Nat, lo ≤ l → l < hi → ∀ as k : Nat → Int32, vlR as O A k (b + (p l).toNatClampNeg) (b + (q l).toNatClampNeg) = f l (mkE lw as)) (e2 : ∀ j, O1 j = O j) (e3 : ∀ j, A1 j = A j) (ep : ∀ j, p1 j = p j) (eq : ∀ j, q1 j = q j) (he : mkE lw as = e) : ∀ l : Nat, lo ≤ l → l < hi → ∀ k : Nat → Int32, vlR as O1 A1 k (b + (p1 l).toNatClampNeg) (b + (q1 l).toNatClampNeg) = f l e := by
  intro l h1 h2 k
  obtain rfl : O1 = O := funext e2
  obtain rfl : A1 = A := funext e3
  rw [ep l, eq l, h l h1 h2 as k, he]
theorem tr_hw {as O O1 A A1 n n1 t t1 : Nat → Int32} {lw : Int} {b lo hi : Nat} {f : Nat → EF} {e : Nat → Int32} (h : ∀ l : Nat, lo ≤ l → l < hi → t l ≠ n l → ∀ as k : Nat → Int32, vlR as O A k (b + (n l).toNatClampNeg) (b + (t l).toNatClampNeg) = f l (mkE lw as)) (e2 : ∀ j, O1 j = O j) (e3 : ∀ j, A1 j = A j) (en : ∀ j, n1 j = n j) (et : ∀ j, t1 j = t j) (he : mkE lw as = e) : ∀ l : Nat, lo ≤ l → l < hi → t1 l ≠ n1 l → ∀ k : Nat → Int32, vlR as O1 A1 k (b + (n1 l).toNatClampNeg) (b + (t1 l).toNatClampNeg) = f l e := by
  intro l h1 h2 hn k
  obtain rfl : O1 = O := funext e2
  obtain rfl : A1 = A := funext e3
  rw [en l, et l] at hn
  rw [en l, et l, h l h1 h2 hn as k, he]
theorem rt_z {b m : Int} (h : m = 0) : rtF b m = 0 := if_pos (by omega)
theorem rt_p {b m : Int} (h : 0 < m) : rtF b m = 1000 * b / m := if_neg (by omega)
set_option maxHeartbeats 4000000 in
set_option maxRecDepth 100000 in
theorem a_X10_toneBy_v (l : Launch) (K : KE) (G : Nat → Option Nat) (H : Heap) {a0 : Nat} (x1 : Int32) (x2 : Int32) (x3 : Int32) {mq : Nat} {oq : Nat} {aq : Nat} {sq : Nat} {uq : Nat} {nq : Nat} {tq : Nat} {fq : Nat} {wq : Nat} {jq : Nat} {slq : Nat} {kq : Nat} {gq : Nat} {hq : Nat} {xq : Nat} (lm : Int32) (sz : Int32) (fsE : Nat → EF) (fwE : Nat → EF) (hT : TY K G H) (ga0 : G a0 = some 112) (hx1 : 0 ≤ x1.toInt ∧ x1.toInt ≤ 1) (hx2 : 0 ≤ x2.toInt ∧ x2.toInt ≤ 9) (hx3 : 0 ≤ x3.toInt ∧ x3.toInt ≤ 2) (gmq : G mq = some 128) (emq : mq = fR H a0 (K.1.2 10 24)) (goq : G oq = some 136) (eoq : oq = fR H a0 (K.1.2 10 32)) (gaq : G aq = some 137) (eaq : aq = fR H a0 (K.1.2 10 33)) (gsq : G sq = some 140) (esq : sq = fR H a0 (K.1.2 10 44)) (guq : G uq = some 139) (euq : uq = fR H a0 (K.1.2 10 43)) (gnq : G nq = some 134) (enq : nq = fR H a0 (K.1.2 10 30)) (gtq : G tq = some 135) (etq : tq = fR H a0 (K.1.2 10 31)) (gfq : G fq = some 133) (efq : fq = fR H a0 (K.1.2 10 29)) (gwq : G wq = some 129) (ewq : wq = fR H a0 (K.1.2 10 25)) (gjq : G jq = some 130) (ejq : jq = fR H a0 (K.1.2 10 26)) (gslq : G slq = some 113) (eslq : slq = fR H a0 (K.1.2 10 4)) (gkq : G kq = some 114) (ekq : kq = fR H a0 (K.1.2 10 5)) (ggq : G gq = some 115) (egq : gq = fR H a0 (K.1.2 10 6)) (ghq : G hq = some 116) (ehq : hq = fR H a0 (K.1.2 10 7)) (gxq : G xq = some 117) (exq : xq = fR H a0 (K.1.2 10 8)) (elm : lm = fI H mq (x1 : Int32).toNatClampNeg) (esz : sz = fI H slq (x2 : Int32).toNatClampNeg) (hg_CG : CG (avw K H a0)) (hy0 : ∀ l : Nat, 16 * x1.toNatClampNeg ≤ l → l < 16 * x1.toNatClampNeg + lm.toNatClampNeg → ∀ as k : Nat → Int32, vlR as (fun j => fI H oq j) (fun j => fI H aq j) k (500 * x1.toNatClampNeg + (fI H fq l).toNatClampNeg) (500 * x1.toNatClampNeg + (fI H nq l).toNatClampNeg) = fsE l (mkE 1 as)) (hy1 : ∀ l : Nat, 16 * x1.toNatClampNeg ≤ l → l < 16 * x1.toNatClampNeg + lm.toNatClampNeg → fI H tq l ≠ fI H nq l → ∀ as k : Nat → Int32, vlR as (fun j => fI H oq j) (fun j => fI H aq j) k (500 * x1.toNatClampNeg + (fI H nq l).toNatClampNeg) (500 * x1.toNatClampNeg + (fI H tq l).toNatClampNeg) = fwE l (mkE 1 as)) : MX l K yX10_toneBy cX10_toneBy 7 (some .int) 4 97 0 0 [.ref a0, .int x1, .int x2, .int x3] H (AE G [140, 139] H.size) (fun v H1 => ∃ (r : Int32), v = some (.int r) ∧ (0 ≤ r.toInt ∧ r.toInt ≤ 2000000000) ∧ (r.toInt = rtF (suI (fun j : Nat => tlB H wq jq nq tq fsE fwE 0 x3.toInt lm.toNatClampNeg (16 * x1.toNatClampNeg) (seE sz.toInt (j : Int) (fI H kq (16 * x2.toNatClampNeg + j)).toInt (fI H gq (16 * x2.toNatClampNeg + j)).toInt (fI H hq (16 * x2.toNatClampNeg + j)).toInt (fI H xq (16 * x2.toNatClampNeg + j)).toInt)) sz.toNatClampNeg) (suI (fun j : Nat => tlB H wq jq nq tq fsE fwE 1 x3.toInt lm.toNatClampNeg (16 * x1.toNatClampNeg) (seE sz.toInt (j : Int) (fI H kq (16 * x2.toNatClampNeg + j)).toInt (fI H gq (16 * x2.toNatClampNeg + j)).toInt (fI H hq (16 * x2.toNatClampNeg + j)).toInt (fI H xq (16 * x2.toNatClampNeg + j)).toInt)) sz.toNatClampNeg)) ∧ TY K G H1) := by
  refine MX.of (by decide +kernel) (Nat.le_of_ble_eq_true rfl) ?_
  intro p e s m below meth c ls Q C hH hl hQ
  subst hH
  have C : CX p K s m _ meth c RX10 cX10_toneBy 7 (some .int) "toneBy" := C
  obtain ⟨hx, hb, hml, hown, hts, hKT, hr, hlocks, hnm⟩ := id C
  have hl : lv_has ls 7 [(0, .ref a0), (1, .int x1), (2, .int x2), (3, .int x3)] := hl
  have hS : va_S (AE G [140, 139] s.heap.size) s.heap s.heap [] := va_S.rf
  have n_0 : (0 : Int32).toInt = 0 := rfl
  have n_1 : (1 : Int32).toInt = 1 := rfl
  have n_1000 : (1000 : Int32).toInt = 1000 := rfl
  have blm := ty_ai (x := lm) elm hT gmq rg_128 (by omega)
  have bsz := ty_ai (x := sz) esz hT gslq rg_113 (by omega)
  have hap : ∀ x y, x < 74 → y < 74 → x ≠ y → K.1.2 10 x ≠ K.1.2 10 y := x_apart hKT hts inX10 tyX10 tyX10_ok nmX10 rfl
  have f0_s_oq : ∀ j : Nat, fI s.heap oq j = fI s.heap oq j := fun _ => rfl
  have f0_s_aq : ∀ j : Nat, fI s.heap aq j = fI s.heap aq j := fun _ => rfl
  have f0_s_nq : ∀ j : Nat, fI s.heap nq j = fI s.heap nq j := fun _ => rfl
  have f0_s_tq : ∀ j : Nat, fI s.heap tq j = fI s.heap tq j := fun _ => rfl
  have f0_s_fq : ∀ j : Nat, fI s.heap fq j = fI s.heap fq j := fun _ => rfl
  have f0_s_wq : ∀ j : Nat, fI s.heap wq j = fI s.heap wq j := fun _ => rfl
  have f0_s_jq : ∀ j : Nat, fI s.heap jq j = fI s.heap jq j := fun _ => rfl
  have f0_s_slq : ∀ j : Nat, fI s.heap slq j = fI s.heap slq j := fun _ => rfl
  have f0_s_kq : ∀ j : Nat, fI s.heap kq j = fI s.heap kq j := fun _ => rfl
  have f0_s_gq : ∀ j : Nat, fI s.heap gq j = fI s.heap gq j := fun _ => rfl
  have f0_s_hq : ∀ j : Nat, fI s.heap hq j = fI s.heap hq j := fun _ => rfl
  have f0_s_xq : ∀ j : Nat, fI s.heap xq j = fI s.heap xq j := fun _ => rfl
  have J9 : ∀ (nf : Nat)  (ls2012 : Array Slot) (H2011 : Heap) (locsH2011 : List Loc) (x2014 : Int32) (x2015 : Int32) (x2016 : Int32), lv_has ls2012 7 [(0, .ref a0), (1, .int x1), (2, .int x2), (3, .int x3), (4, .int x2014), (5, .int x2015), (6, .int x2016)] → TY K G H2011 → va_S (AE G [140, 139] s.heap.size) s.heap H2011 locsH2011 → (0 ≤ x2014.toInt ∧ x2014.toInt ≤ 1599984) → (0 ≤ x2015.toInt ∧ x2015.toInt ≤ 1599984) → (0 ≤ x2016.toInt ∧ x2016.toInt ≤ 16) → (mq = fR H2011 a0 (K.1.2 10 24)) → (oq = fR H2011 a0 (K.1.2 10 32)) → (aq = fR H2011 a0 (K.1.2 10 33)) → (sq = fR H2011 a0 (K.1.2 10 44)) → (uq = fR H2011 a0 (K.1.2 10 43)) → (nq = fR H2011 a0 (K.1.2 10 30)) → (tq = fR H2011 a0 (K.1.2 10 31)) → (fq = fR H2011 a0 (K.1.2 10 29)) → (wq = fR H2011 a0 (K.1.2 10 25)) → (jq = fR H2011 a0 (K.1.2 10 26)) → (slq = fR H2011 a0 (K.1.2 10 4)) → (kq = fR H2011 a0 (K.1.2 10 5)) → (gq = fR H2011 a0 (K.1.2 10 6)) → (hq = fR H2011 a0 (K.1.2 10 7)) → (xq = fR H2011 a0 (K.1.2 10 8)) → (lm = fI H2011 mq (x1 : Int32).toNatClampNeg) → (sz = fI H2011 slq (x2 : Int32).toNatClampNeg) → (CG (avw K H2011 a0)) → (∀ j : Nat, fI H2011 oq j = fI s.heap oq j) → (∀ j : Nat, fI H2011 aq j = fI s.heap aq j) → (∀ j : Nat, fI H2011 nq j = fI s.heap nq j) → (∀ j : Nat, fI H2011 tq j = fI s.heap tq j) → (∀ j : Nat, fI H2011 fq j = fI s.heap fq j) → (∀ j : Nat, fI H2011 wq j = fI s.heap wq j) → (∀ j : Nat, fI H2011 jq j = fI s.heap jq j) → (∀ j : Nat, fI H2011 slq j = fI s.heap slq j) → (∀ j : Nat, fI H2011 kq j = fI s.heap kq j) → (∀ j : Nat, fI H2011 gq j = fI s.heap gq j) → (∀ j : Nat, fI H2011 hq j = fI s.heap hq j) → (∀ j : Nat, fI H2011 xq j = fI s.heap xq j) → (16 - x2016.toInt < (nf : Int)) → (0 ≤ x2014.toInt ∧ x2014.toInt ≤ 99999 * x2016.toInt ∧ 0 ≤ x2015.toInt ∧ x2015.toInt ≤ 99999 * x2016.toInt ∧ 0 ≤ x2016.toInt ∧ x2016.toInt ≤ sz.toInt) → (x2014.toInt = suI (fun j : Nat => tlB s.heap wq jq nq tq fsE fwE 0 x3.toInt lm.toNatClampNeg (16 * x1.toNatClampNeg) (seE sz.toInt (j : Int) (fI s.heap kq (16 * x2.toNatClampNeg + j)).toInt (fI s.heap gq (16 * x2.toNatClampNeg + j)).toInt (fI s.heap hq (16 * x2.toNatClampNeg + j)).toInt (fI s.heap xq (16 * x2.toNatClampNeg + j)).toInt)) x2016.toNatClampNeg) → (x2015.toInt = suI (fun j : Nat => tlB s.heap wq jq nq tq fsE fwE 1 x3.toInt lm.toNatClampNeg (16 * x1.toNatClampNeg) (seE sz.toInt (j : Int) (fI s.heap kq (16 * x2.toNatClampNeg + j)).toInt (fI s.heap gq (16 * x2.toNatClampNeg + j)).toInt (fI s.heap hq (16 * x2.toNatClampNeg + j)).toInt (fI s.heap xq (16 * x2.toNatClampNeg + j)).toInt)) x2016.toNatClampNeg) → W p l e ({ frames := 4, cells := 0, slots := 0, locals := 97 } : Room) s m (([.ref a0, .int x1, .int x2, .int x3] : List Value).toArray) below meth c H2011 locsH2011 0 0 Q (F0 m 9 ls2012 []) := by
    intro nf
    induction nf with
    | zero =>
      intro  ls2012 H2011 locsH2011 x2014 x2015 x2016 hl2013 hTH2011 hSH2011 bx2014 bx2015 bx2016 cy2017_0 cy2017_1 cy2017_2 cy2017_3 cy2017_4 cy2017_5 cy2017_6 cy2017_7 cy2017_8 cy2017_9 cy2017_10 cy2017_11 cy2017_12 cy2017_13 cy2017_14 cy2017_15 cy2017_16 gy2017_CG fy2017_s_oq fy2017_s_aq fy2017_s_nq fy2017_s_tq fy2017_s_fq fy2017_s_wq fy2017_s_jq fy2017_s_slq fy2017_s_kq fy2017_s_gq fy2017_s_hq fy2017_s_xq hm9 iv9 hsb9 hsm9
      exfalso
      omega
    | succ nf ih9 =>
      intro  ls2012 H2011 locsH2011 x2014 x2015 x2016 hl2013 hTH2011 hSH2011 bx2014 bx2015 bx2016 cy2017_0 cy2017_1 cy2017_2 cy2017_3 cy2017_4 cy2017_5 cy2017_6 cy2017_7 cy2017_8 cy2017_9 cy2017_10 cy2017_11 cy2017_12 cy2017_13 cy2017_14 cy2017_15 cy2017_16 gy2017_CG fy2017_s_oq fy2017_s_aq fy2017_s_nq fy2017_s_tq fy2017_s_fq fy2017_s_wq fy2017_s_jq fy2017_s_slq fy2017_s_kq fy2017_s_gq fy2017_s_hq fy2017_s_xq hm9 iv9 hsb9 hsm9
      refine lv_iload hx hb dX10_toneBy_9 (lv_at hl2013 6 rfl) ?_
      refine lv_aload_n hx hb dX10_toneBy_11 rfl (lv_at hl2013 0 rfl) ?_
      refine x_gr C hTH2011 (ci := 10) (k := 4) rfl inX10 (by decide) wF_X10_13 ga0 rg_112 rfl dX10_toneBy_12 (fun q2018 eq2018 gq2018 => ?_)
      have uq2018 : slq = q2018 := (cy2017_10).trans eq2018.symm
      subst uq2018
      refine lv_iload_n hx hb dX10_toneBy_15 rfl (lv_at hl2013 2 rfl) ?_
      refine x_ai C hTH2011 gslq rg_113 ⟨by omega, by show _ < ((10 : Nat) : Int); omega⟩ dX10_toneBy_16 (fun x2019 ex2019 bx2019 => ?_)
      have ux2019 : sz = x2019 := (cy2017_16).trans ex2019.symm
      subst ux2019
      refine lv_icmp_ge (tgt := 57) hx hb dX10_toneBy_17 (by decide) (fun c2020 => ?_) (fun c2020 => ?_)
      · have k2021 := i_le c2020
        refine lv_iload hx hb dX10_toneBy_57 (lv_at hl2013 5 rfl) ?_
        refine lv_if_ne (tgt := 66) hx hb dX10_toneBy_59 (by decide) (fun c2022 => ?_) (fun c2022 => ?_)
        · have k2023 := i_ne c2022
          refine lv_sipush (v := 1000) hx hb dX10_toneBy_66 (by decide) ?_
          refine lv_iload hx hb dX10_toneBy_69 (lv_at hl2013 4 rfl) ?_
          refine lv_imul hx hb dX10_toneBy_71 ?_
          refine lv_topi (fun x2024 ex2024 => ?_)
          have tx2024 := i_mul ex2024 (by rw [n_1000]; omega)
          rw [n_1000] at tx2024
          refine lv_iload hx hb dX10_toneBy_72 (lv_at hl2013 5 rfl) ?_
          refine lv_idiv hx hb dX10_toneBy_74 (fun h => by have := i_eq h; omega) ?_
          refine lv_topi (fun x2025 ex2025 => ?_)
          have tx2025 := i_div ex2025 (by omega) (by omega)
          have hrl_ := rt_i ex2024 ex2025 (by omega) (by omega)
          have rr_ : 0 ≤ x2025.toInt ∧ x2025.toInt ≤ 2000000000 := by rw [hrl_]; exact rt_b (by omega) (by omega)
          have cn_x2016 := i_cl (x := x2016) (by omega)
          have cn_sz := i_cl (x := sz) (by omega)
          exact x_iret C hQ dX10_toneBy_75 hSH2011 (by decide) (by decide) (⟨x2025, rfl, by omega, (by rw [show sz.toNatClampNeg = x2016.toNatClampNeg by omega, ← hsb9, ← hsm9, rt_p (by omega)]; exact hrl_), hTH2011⟩)
        · have k2023 := i_eq c2022
          refine lv_iconst (v := 0) hx hb dX10_toneBy_62 (by decide) ?_
          refine lv_goto (tgt := 75) hx hb dX10_toneBy_63 (by decide) ?_
          have cn_x2016 := i_cl (x := x2016) (by omega)
          have cn_sz := i_cl (x := sz) (by omega)
          exact x_iret C hQ dX10_toneBy_75 hSH2011 (by decide) (by decide) (⟨0, rfl, by decide, (by rw [show sz.toNatClampNeg = x2016.toNatClampNeg by omega, ← hsb9, ← hsm9, rt_z (by omega)]; rfl), hTH2011⟩)
      · have k2021 := i_nle c2020
        refine lv_aload_n hx hb dX10_toneBy_20 rfl (lv_at hl2013 0 rfl) ?_
        refine lv_iload_n hx hb dX10_toneBy_21 rfl (lv_at hl2013 2 rfl) ?_
        refine lv_iload hx hb dX10_toneBy_22 (lv_at hl2013 6 rfl) ?_
        refine x_V (As := [.int x2, .int x2016]) (rest := []) C (a_X10_asksSlice_v l K G H2011 (x2) (x2016) (sz) hTH2011 ga0 (by omega) (by omega) guq cy2017_4 gslq cy2017_10 gkq cy2017_11 ggq cy2017_12 ghq cy2017_13 gxq cy2017_14 cy2017_16) yo_X10_asksSlice wM_X10_316 ⟨⟨by decide, by decide⟩, by decide, by decide⟩ (x_rv C hTH2011 (ci := 10) rfl ga0 rg_112) rfl hl2013.1 rfl (Nat.le_of_ble_eq_true rfl) dX10_toneBy_24 hSH2011 (AE_sub (fun _ _ => rfl) (by decide) hSH2011.1) (fun vH2026 H2026 locsH2026 pH2026 zH2026 kH2026 hSH2026 => ?_)
        obtain ⟨hvH2026, m2027, hTH2026⟩ := pH2026
        subst hvH2026
        have g2028 : CG (avw K H2026 a0) := CG.congr (fun k hk j => av_eff hTH2011 kH2026 ga0 (by decide) (CG_eff [139] (by decide) k hk)) gy2017_CG
        have f2029 : ∀ j : Nat, fI H2026 oq j = fI s.heap oq j := fun j => (fI_kept (x_lt hTH2011 kH2026 goq (by decide))).trans (fy2017_s_oq j)
        have f2030 : ∀ j : Nat, fI H2026 aq j = fI s.heap aq j := fun j => (fI_kept (x_lt hTH2011 kH2026 gaq (by decide))).trans (fy2017_s_aq j)
        have f2031 : ∀ j : Nat, fI H2026 nq j = fI s.heap nq j := fun j => (fI_kept (x_lt hTH2011 kH2026 gnq (by decide))).trans (fy2017_s_nq j)
        have f2032 : ∀ j : Nat, fI H2026 tq j = fI s.heap tq j := fun j => (fI_kept (x_lt hTH2011 kH2026 gtq (by decide))).trans (fy2017_s_tq j)
        have f2033 : ∀ j : Nat, fI H2026 fq j = fI s.heap fq j := fun j => (fI_kept (x_lt hTH2011 kH2026 gfq (by decide))).trans (fy2017_s_fq j)
        have f2034 : ∀ j : Nat, fI H2026 wq j = fI s.heap wq j := fun j => (fI_kept (x_lt hTH2011 kH2026 gwq (by decide))).trans (fy2017_s_wq j)
        have f2035 : ∀ j : Nat, fI H2026 jq j = fI s.heap jq j := fun j => (fI_kept (x_lt hTH2011 kH2026 gjq (by decide))).trans (fy2017_s_jq j)
        have f2036 : ∀ j : Nat, fI H2026 slq j = fI s.heap slq j := fun j => (fI_kept (x_lt hTH2011 kH2026 gslq (by decide))).trans (fy2017_s_slq j)
        have f2037 : ∀ j : Nat, fI H2026 kq j = fI s.heap kq j := fun j => (fI_kept (x_lt hTH2011 kH2026 gkq (by decide))).trans (fy2017_s_kq j)
        have f2038 : ∀ j : Nat, fI H2026 gq j = fI s.heap gq j := fun j => (fI_kept (x_lt hTH2011 kH2026 ggq (by decide))).trans (fy2017_s_gq j)
        have f2039 : ∀ j : Nat, fI H2026 hq j = fI s.heap hq j := fun j => (fI_kept (x_lt hTH2011 kH2026 ghq (by decide))).trans (fy2017_s_hq j)
        have f2040 : ∀ j : Nat, fI H2026 xq j = fI s.heap xq j := fun j => (fI_kept (x_lt hTH2011 kH2026 gxq (by decide))).trans (fy2017_s_xq j)
        have m2041 := (cy2017_0).trans (fR_kept (x_lt hTH2011 kH2026 ga0 (by decide))).symm
        have m2042 := (cy2017_1).trans (fR_kept (x_lt hTH2011 kH2026 ga0 (by decide))).symm
        have m2043 := (cy2017_2).trans (fR_kept (x_lt hTH2011 kH2026 ga0 (by decide))).symm
        have m2044 := (cy2017_3).trans (fR_kept (x_lt hTH2011 kH2026 ga0 (by decide))).symm
        have m2045 := (cy2017_4).trans (fR_kept (x_lt hTH2011 kH2026 ga0 (by decide))).symm
        have m2046 := (cy2017_5).trans (fR_kept (x_lt hTH2011 kH2026 ga0 (by decide))).symm
        have m2047 := (cy2017_6).trans (fR_kept (x_lt hTH2011 kH2026 ga0 (by decide))).symm
        have m2048 := (cy2017_7).trans (fR_kept (x_lt hTH2011 kH2026 ga0 (by decide))).symm
        have m2049 := (cy2017_8).trans (fR_kept (x_lt hTH2011 kH2026 ga0 (by decide))).symm
        have m2050 := (cy2017_9).trans (fR_kept (x_lt hTH2011 kH2026 ga0 (by decide))).symm
        have m2051 := (cy2017_10).trans (fR_kept (x_lt hTH2011 kH2026 ga0 (by decide))).symm
        have m2052 := (cy2017_11).trans (fR_kept (x_lt hTH2011 kH2026 ga0 (by decide))).symm
        have m2053 := (cy2017_12).trans (fR_kept (x_lt hTH2011 kH2026 ga0 (by decide))).symm
        have m2054 := (cy2017_13).trans (fR_kept (x_lt hTH2011 kH2026 ga0 (by decide))).symm
        have m2055 := (cy2017_14).trans (fR_kept (x_lt hTH2011 kH2026 ga0 (by decide))).symm
        have m2056 := (cy2017_15).trans (fI_kept (x_lt hTH2011 kH2026 gmq (by decide))).symm
        have m2057 := (cy2017_16).trans (fI_kept (x_lt hTH2011 kH2026 gslq (by decide))).symm
        have cn_x2016 := i_cl (x := x2016) (by omega)
        have se2058 : mkE 1 (fun j => fI H2026 uq j) = (seE sz.toInt ((x2016.toNatClampNeg : Nat) : Int) (fI s.heap kq (16 * x2.toNatClampNeg + x2016.toNatClampNeg)).toInt (fI s.heap gq (16 * x2.toNatClampNeg + x2016.toNatClampNeg)).toInt (fI s.heap hq (16 * x2.toNatClampNeg + x2016.toNatClampNeg)).toInt (fI s.heap xq (16 * x2.toNatClampNeg + x2016.toNatClampNeg)).toInt) := by
          have z := m2027
          rw [fy2017_s_kq (16 * x2.toNatClampNeg + x2016.toNatClampNeg), fy2017_s_gq (16 * x2.toNatClampNeg + x2016.toNatClampNeg), fy2017_s_hq (16 * x2.toNatClampNeg + x2016.toNatClampNeg), fy2017_s_xq (16 * x2.toNatClampNeg + x2016.toNatClampNeg), show x2016.toInt = ((x2016.toNatClampNeg : Nat) : Int) by omega] at z
          exact se_all z
        refine W.eq (g2 := F0 m 27 ls2012 []) rfl ?_
        refine lv_iload hx hb dX10_toneBy_27 (lv_at hl2013 4 rfl) ?_
        refine lv_aload_n hx hb dX10_toneBy_29 rfl (lv_at hl2013 0 rfl) ?_
        refine lv_iload_n hx hb dX10_toneBy_30 rfl (lv_at hl2013 1 rfl) ?_
        refine lv_iconst (v := 0) hx hb dX10_toneBy_31 (by decide) ?_
        refine lv_iload_n hx hb dX10_toneBy_32 rfl (lv_at hl2013 3 rfl) ?_
        refine x_V (As := [.int x1, .int 0, .int x3]) (rest := [.int x2014]) C (a_X10_tellsBy_v l K G H2026 (x1) (0) (x3) (lm) ((fun l => fsE l (seE sz.toInt ((x2016.toNatClampNeg : Nat) : Int) (fI s.heap kq (16 * x2.toNatClampNeg + x2016.toNatClampNeg)).toInt (fI s.heap gq (16 * x2.toNatClampNeg + x2016.toNatClampNeg)).toInt (fI s.heap hq (16 * x2.toNatClampNeg + x2016.toNatClampNeg)).toInt (fI s.heap xq (16 * x2.toNatClampNeg + x2016.toNatClampNeg)).toInt))) ((fun l => fwE l (seE sz.toInt ((x2016.toNatClampNeg : Nat) : Int) (fI s.heap kq (16 * x2.toNatClampNeg + x2016.toNatClampNeg)).toInt (fI s.heap gq (16 * x2.toNatClampNeg + x2016.toNatClampNeg)).toInt (fI s.heap hq (16 * x2.toNatClampNeg + x2016.toNatClampNeg)).toInt (fI s.heap xq (16 * x2.toNatClampNeg + x2016.toNatClampNeg)).toInt))) hTH2026 ga0 (by omega) gmq m2041 goq m2042 gaq m2043 gsq m2044 guq m2045 gnq m2046 gtq m2047 gfq m2048 gwq m2049 gjq m2050 m2056 g2028 (tr_hs hy0 f2029 f2030 f2033 f2031 se2058) (tr_hw hy1 f2029 f2030 f2031 f2032 se2058)) yo_X10_tellsBy wM_X10_319 ⟨⟨by decide, by decide⟩, by decide, by decide⟩ (x_rv C hTH2026 (ci := 10) rfl ga0 rg_112) rfl hl2013.1 rfl (Nat.le_of_ble_eq_true rfl) dX10_toneBy_33 hSH2026 (AE_sub (fun _ _ => rfl) (by decide) hSH2026.1) (fun vH2059 H2059 locsH2059 pH2059 zH2059 kH2059 hSH2059 => ?_)
        obtain ⟨x2060, hvH2059, m2061, hTH2059⟩ := pH2059
        subst hvH2059
        have g2062 : CG (avw K H2059 a0) := CG.congr (fun k hk j => av_eff hTH2026 kH2059 ga0 (by decide) (CG_eff [140] (by decide) k hk)) g2028
        have f2063 : ∀ j : Nat, fI H2059 oq j = fI s.heap oq j := fun j => (fI_kept (x_lt hTH2026 kH2059 goq (by decide))).trans (f2029 j)
        have f2064 : ∀ j : Nat, fI H2059 aq j = fI s.heap aq j := fun j => (fI_kept (x_lt hTH2026 kH2059 gaq (by decide))).trans (f2030 j)
        have f2065 : ∀ j : Nat, fI H2059 nq j = fI s.heap nq j := fun j => (fI_kept (x_lt hTH2026 kH2059 gnq (by decide))).trans (f2031 j)
        have f2066 : ∀ j : Nat, fI H2059 tq j = fI s.heap tq j := fun j => (fI_kept (x_lt hTH2026 kH2059 gtq (by decide))).trans (f2032 j)
        have f2067 : ∀ j : Nat, fI H2059 fq j = fI s.heap fq j := fun j => (fI_kept (x_lt hTH2026 kH2059 gfq (by decide))).trans (f2033 j)
        have f2068 : ∀ j : Nat, fI H2059 wq j = fI s.heap wq j := fun j => (fI_kept (x_lt hTH2026 kH2059 gwq (by decide))).trans (f2034 j)
        have f2069 : ∀ j : Nat, fI H2059 jq j = fI s.heap jq j := fun j => (fI_kept (x_lt hTH2026 kH2059 gjq (by decide))).trans (f2035 j)
        have f2070 : ∀ j : Nat, fI H2059 slq j = fI s.heap slq j := fun j => (fI_kept (x_lt hTH2026 kH2059 gslq (by decide))).trans (f2036 j)
        have f2071 : ∀ j : Nat, fI H2059 kq j = fI s.heap kq j := fun j => (fI_kept (x_lt hTH2026 kH2059 gkq (by decide))).trans (f2037 j)
        have f2072 : ∀ j : Nat, fI H2059 gq j = fI s.heap gq j := fun j => (fI_kept (x_lt hTH2026 kH2059 ggq (by decide))).trans (f2038 j)
        have f2073 : ∀ j : Nat, fI H2059 hq j = fI s.heap hq j := fun j => (fI_kept (x_lt hTH2026 kH2059 ghq (by decide))).trans (f2039 j)
        have f2074 : ∀ j : Nat, fI H2059 xq j = fI s.heap xq j := fun j => (fI_kept (x_lt hTH2026 kH2059 gxq (by decide))).trans (f2040 j)
        have m2075 := (m2041).trans (fR_kept (x_lt hTH2026 kH2059 ga0 (by decide))).symm
        have m2076 := (m2042).trans (fR_kept (x_lt hTH2026 kH2059 ga0 (by decide))).symm
        have m2077 := (m2043).trans (fR_kept (x_lt hTH2026 kH2059 ga0 (by decide))).symm
        have m2078 := (m2044).trans (fR_kept (x_lt hTH2026 kH2059 ga0 (by decide))).symm
        have m2079 := (m2045).trans (fR_kept (x_lt hTH2026 kH2059 ga0 (by decide))).symm
        have m2080 := (m2046).trans (fR_kept (x_lt hTH2026 kH2059 ga0 (by decide))).symm
        have m2081 := (m2047).trans (fR_kept (x_lt hTH2026 kH2059 ga0 (by decide))).symm
        have m2082 := (m2048).trans (fR_kept (x_lt hTH2026 kH2059 ga0 (by decide))).symm
        have m2083 := (m2049).trans (fR_kept (x_lt hTH2026 kH2059 ga0 (by decide))).symm
        have m2084 := (m2050).trans (fR_kept (x_lt hTH2026 kH2059 ga0 (by decide))).symm
        have m2085 := (m2051).trans (fR_kept (x_lt hTH2026 kH2059 ga0 (by decide))).symm
        have m2086 := (m2052).trans (fR_kept (x_lt hTH2026 kH2059 ga0 (by decide))).symm
        have m2087 := (m2053).trans (fR_kept (x_lt hTH2026 kH2059 ga0 (by decide))).symm
        have m2088 := (m2054).trans (fR_kept (x_lt hTH2026 kH2059 ga0 (by decide))).symm
        have m2089 := (m2055).trans (fR_kept (x_lt hTH2026 kH2059 ga0 (by decide))).symm
        have m2090 := (m2056).trans (fI_kept (x_lt hTH2026 kH2059 gmq (by decide))).symm
        have m2091 := (m2057).trans (fI_kept (x_lt hTH2026 kH2059 gslq (by decide))).symm
        have hb2092 : x2060.toInt = (fun j : Nat => tlB s.heap wq jq nq tq fsE fwE 0 x3.toInt lm.toNatClampNeg (16 * x1.toNatClampNeg) (seE sz.toInt (j : Int) (fI s.heap kq (16 * x2.toNatClampNeg + j)).toInt (fI s.heap gq (16 * x2.toNatClampNeg + j)).toInt (fI s.heap hq (16 * x2.toNatClampNeg + j)).toInt (fI s.heap xq (16 * x2.toNatClampNeg + j)).toInt)) x2016.toNatClampNeg := by rw [m2061, tdB_congr f2034 f2035 f2031 f2032]; rfl
        have rhb2092 : 0 ≤ x2060.toInt ∧ x2060.toInt ≤ 99999 := by rw [hb2092]; exact tlB_r (by decide)
        have se2093 : mkE 1 (fun j => fI H2059 uq j) = (seE sz.toInt ((x2016.toNatClampNeg : Nat) : Int) (fI s.heap kq (16 * x2.toNatClampNeg + x2016.toNatClampNeg)).toInt (fI s.heap gq (16 * x2.toNatClampNeg + x2016.toNatClampNeg)).toInt (fI s.heap hq (16 * x2.toNatClampNeg + x2016.toNatClampNeg)).toInt (fI s.heap xq (16 * x2.toNatClampNeg + x2016.toNatClampNeg)).toInt) := by
          rw [show (fun j => fI H2059 uq j) = (fun j => fI H2026 uq j) from funext fun j => fI_kept (x_lt hTH2026 kH2059 guq (by decide))]
          exact se2058
        refine W.eq (g2 := F0 m 36 ls2012 [.int x2060, .int x2014]) rfl ?_
        refine lv_iadd hx hb dX10_toneBy_36 ?_
        refine lv_topi (fun x2094 ex2094 => ?_)
        have tx2094 := i_add ex2094 (by omega)
        refine lv_istore (lv' := [(4, .int x2094), (0, .ref a0), (1, .int x1), (2, .int x2), (3, .int x3), (5, .int x2015), (6, .int x2016)]) hx hb dX10_toneBy_37 hl2013 (by decide) rfl (fun ls2095 hl2096 => ?_)
        refine lv_iload hx hb dX10_toneBy_39 (lv_at hl2096 5 rfl) ?_
        refine lv_aload_n hx hb dX10_toneBy_41 rfl (lv_at hl2096 1 rfl) ?_
        refine lv_iload_n hx hb dX10_toneBy_42 rfl (lv_at hl2096 2 rfl) ?_
        refine lv_iconst (v := 1) hx hb dX10_toneBy_43 (by decide) ?_
        refine lv_iload_n hx hb dX10_toneBy_44 rfl (lv_at hl2096 4 rfl) ?_
        refine x_V (As := [.int x1, .int 1, .int x3]) (rest := [.int x2015]) C (a_X10_tellsBy_v l K G H2059 (x1) (1) (x3) (lm) ((fun l => fsE l (seE sz.toInt ((x2016.toNatClampNeg : Nat) : Int) (fI s.heap kq (16 * x2.toNatClampNeg + x2016.toNatClampNeg)).toInt (fI s.heap gq (16 * x2.toNatClampNeg + x2016.toNatClampNeg)).toInt (fI s.heap hq (16 * x2.toNatClampNeg + x2016.toNatClampNeg)).toInt (fI s.heap xq (16 * x2.toNatClampNeg + x2016.toNatClampNeg)).toInt))) ((fun l => fwE l (seE sz.toInt ((x2016.toNatClampNeg : Nat) : Int) (fI s.heap kq (16 * x2.toNatClampNeg + x2016.toNatClampNeg)).toInt (fI s.heap gq (16 * x2.toNatClampNeg + x2016.toNatClampNeg)).toInt (fI s.heap hq (16 * x2.toNatClampNeg + x2016.toNatClampNeg)).toInt (fI s.heap xq (16 * x2.toNatClampNeg + x2016.toNatClampNeg)).toInt))) hTH2059 ga0 (by omega) gmq m2075 goq m2076 gaq m2077 gsq m2078 guq m2079 gnq m2080 gtq m2081 gfq m2082 gwq m2083 gjq m2084 m2090 g2062 (tr_hs hy0 f2063 f2064 f2067 f2065 se2093) (tr_hw hy1 f2063 f2064 f2065 f2066 se2093)) yo_X10_tellsBy wM_X10_319 ⟨⟨by decide, by decide⟩, by decide, by decide⟩ (x_rv C hTH2059 (ci := 10) rfl ga0 rg_112) rfl hl2096.1 rfl (Nat.le_of_ble_eq_true rfl) dX10_toneBy_45 hSH2059 (AE_sub (fun _ _ => rfl) (by decide) hSH2059.1) (fun vH2097 H2097 locsH2097 pH2097 zH2097 kH2097 hSH2097 => ?_)
        obtain ⟨x2098, hvH2097, m2099, hTH2097⟩ := pH2097
        subst hvH2097
        have g2100 : CG (avw K H2097 a0) := CG.congr (fun k hk j => av_eff hTH2059 kH2097 ga0 (by decide) (CG_eff [140] (by decide) k hk)) g2062
        have f2101 : ∀ j : Nat, fI H2097 oq j = fI s.heap oq j := fun j => (fI_kept (x_lt hTH2059 kH2097 goq (by decide))).trans (f2063 j)
        have f2102 : ∀ j : Nat, fI H2097 aq j = fI s.heap aq j := fun j => (fI_kept (x_lt hTH2059 kH2097 gaq (by decide))).trans (f2064 j)
        have f2103 : ∀ j : Nat, fI H2097 nq j = fI s.heap nq j := fun j => (fI_kept (x_lt hTH2059 kH2097 gnq (by decide))).trans (f2065 j)
        have f2104 : ∀ j : Nat, fI H2097 tq j = fI s.heap tq j := fun j => (fI_kept (x_lt hTH2059 kH2097 gtq (by decide))).trans (f2066 j)
        have f2105 : ∀ j : Nat, fI H2097 fq j = fI s.heap fq j := fun j => (fI_kept (x_lt hTH2059 kH2097 gfq (by decide))).trans (f2067 j)
        have f2106 : ∀ j : Nat, fI H2097 wq j = fI s.heap wq j := fun j => (fI_kept (x_lt hTH2059 kH2097 gwq (by decide))).trans (f2068 j)
        have f2107 : ∀ j : Nat, fI H2097 jq j = fI s.heap jq j := fun j => (fI_kept (x_lt hTH2059 kH2097 gjq (by decide))).trans (f2069 j)
        have f2108 : ∀ j : Nat, fI H2097 slq j = fI s.heap slq j := fun j => (fI_kept (x_lt hTH2059 kH2097 gslq (by decide))).trans (f2070 j)
        have f2109 : ∀ j : Nat, fI H2097 kq j = fI s.heap kq j := fun j => (fI_kept (x_lt hTH2059 kH2097 gkq (by decide))).trans (f2071 j)
        have f2110 : ∀ j : Nat, fI H2097 gq j = fI s.heap gq j := fun j => (fI_kept (x_lt hTH2059 kH2097 ggq (by decide))).trans (f2072 j)
        have f2111 : ∀ j : Nat, fI H2097 hq j = fI s.heap hq j := fun j => (fI_kept (x_lt hTH2059 kH2097 ghq (by decide))).trans (f2073 j)
        have f2112 : ∀ j : Nat, fI H2097 xq j = fI s.heap xq j := fun j => (fI_kept (x_lt hTH2059 kH2097 gxq (by decide))).trans (f2074 j)
        have m2113 := (m2075).trans (fR_kept (x_lt hTH2059 kH2097 ga0 (by decide))).symm
        have m2114 := (m2076).trans (fR_kept (x_lt hTH2059 kH2097 ga0 (by decide))).symm
        have m2115 := (m2077).trans (fR_kept (x_lt hTH2059 kH2097 ga0 (by decide))).symm
        have m2116 := (m2078).trans (fR_kept (x_lt hTH2059 kH2097 ga0 (by decide))).symm
        have m2117 := (m2079).trans (fR_kept (x_lt hTH2059 kH2097 ga0 (by decide))).symm
        have m2118 := (m2080).trans (fR_kept (x_lt hTH2059 kH2097 ga0 (by decide))).symm
        have m2119 := (m2081).trans (fR_kept (x_lt hTH2059 kH2097 ga0 (by decide))).symm
        have m2120 := (m2082).trans (fR_kept (x_lt hTH2059 kH2097 ga0 (by decide))).symm
        have m2121 := (m2083).trans (fR_kept (x_lt hTH2059 kH2097 ga0 (by decide))).symm
        have m2122 := (m2084).trans (fR_kept (x_lt hTH2059 kH2097 ga0 (by decide))).symm
        have m2123 := (m2085).trans (fR_kept (x_lt hTH2059 kH2097 ga0 (by decide))).symm
        have m2124 := (m2086).trans (fR_kept (x_lt hTH2059 kH2097 ga0 (by decide))).symm
        have m2125 := (m2087).trans (fR_kept (x_lt hTH2059 kH2097 ga0 (by decide))).symm
        have m2126 := (m2088).trans (fR_kept (x_lt hTH2059 kH2097 ga0 (by decide))).symm
        have m2127 := (m2089).trans (fR_kept (x_lt hTH2059 kH2097 ga0 (by decide))).symm
        have m2128 := (m2090).trans (fI_kept (x_lt hTH2059 kH2097 gmq (by decide))).symm
        have m2129 := (m2091).trans (fI_kept (x_lt hTH2059 kH2097 gslq (by decide))).symm
        have hb2130 : x2098.toInt = (fun j : Nat => tlB s.heap wq jq nq tq fsE fwE 1 x3.toInt lm.toNatClampNeg (16 * x1.toNatClampNeg) (seE sz.toInt (j : Int) (fI s.heap kq (16 * x2.toNatClampNeg + j)).toInt (fI s.heap gq (16 * x2.toNatClampNeg + j)).toInt (fI s.heap hq (16 * x2.toNatClampNeg + j)).toInt (fI s.heap xq (16 * x2.toNatClampNeg + j)).toInt)) x2016.toNatClampNeg := by rw [m2099, tdB_congr f2068 f2069 f2065 f2066]; rfl
        have rhb2130 : 0 ≤ x2098.toInt ∧ x2098.toInt ≤ 99999 := by rw [hb2130]; exact tlB_r (by decide)
        have se2131 : mkE 1 (fun j => fI H2097 uq j) = (seE sz.toInt ((x2016.toNatClampNeg : Nat) : Int) (fI s.heap kq (16 * x2.toNatClampNeg + x2016.toNatClampNeg)).toInt (fI s.heap gq (16 * x2.toNatClampNeg + x2016.toNatClampNeg)).toInt (fI s.heap hq (16 * x2.toNatClampNeg + x2016.toNatClampNeg)).toInt (fI s.heap xq (16 * x2.toNatClampNeg + x2016.toNatClampNeg)).toInt) := by
          rw [show (fun j => fI H2097 uq j) = (fun j => fI H2059 uq j) from funext fun j => fI_kept (x_lt hTH2059 kH2097 guq (by decide))]
          exact se2093
        refine W.eq (g2 := F0 m 48 ls2095 [.int x2098, .int x2015]) rfl ?_
        refine lv_iadd hx hb dX10_toneBy_48 ?_
        refine lv_topi (fun x2132 ex2132 => ?_)
        have tx2132 := i_add ex2132 (by omega)
        refine lv_istore (lv' := [(5, .int x2132), (4, .int x2094), (0, .ref a0), (1, .int x1), (2, .int x2), (3, .int x3), (6, .int x2016)]) hx hb dX10_toneBy_49 hl2096 (by decide) rfl (fun ls2133 hl2134 => ?_)
        obtain ⟨x2135, ex2135⟩ : ∃ y : Int32, y = x2016 + 1 := ⟨_, rfl⟩
        have tx2135 := i_add ex2135 (by omega)
        refine lv_iinc (v := x2135) (lv' := [(6, .int x2135), (5, .int x2132), (4, .int x2094), (0, .ref a0), (1, .int x1), (2, .int x2), (3, .int x3)]) hx hb dX10_toneBy_51 hl2134 (k := 6) rfl (by rw [ex2135]; rfl) (by decide) rfl (fun ls2136 hl2137 => ?_)
        refine lv_goto (tgt := 9) hx hb dX10_toneBy_54 (by decide) ?_
        have cn_x2135 := i_cl (x := x2135) (by omega)
        have cn_x2016 := i_cl (x := x2016) (by omega)
        exact ih9  ls2136 H2097 locsH2097 (x2094) (x2132) (x2135) (lv_sub hl2137 [3, 4, 5, 6, 2, 1, 0] rfl) hTH2097 hSH2097 (by have := i_rng x2094; omega) (by have := i_rng x2132; omega) (by have := i_rng x2135; omega) m2113 m2114 m2115 m2116 m2117 m2118 m2119 m2120 m2121 m2122 m2123 m2124 m2125 m2126 m2127 m2128 m2129 g2100 f2101 f2102 f2103 f2104 f2105 f2106 f2107 f2108 f2109 f2110 f2111 f2112 (by omega) (by omega) (by rw [suI_s (n := x2016.toNatClampNeg) (by omega)]; show _ = _ + (fun j : Nat => tlB s.heap wq jq nq tq fsE fwE 0 x3.toInt lm.toNatClampNeg (16 * x1.toNatClampNeg) (seE sz.toInt (j : Int) (fI s.heap kq (16 * x2.toNatClampNeg + j)).toInt (fI s.heap gq (16 * x2.toNatClampNeg + j)).toInt (fI s.heap hq (16 * x2.toNatClampNeg + j)).toInt (fI s.heap xq (16 * x2.toNatClampNeg + j)).toInt)) x2016.toNatClampNeg; rw [← hsb9, ← hb2092]; omega) (by rw [suI_s (n := x2016.toNatClampNeg) (by omega)]; show _ = _ + (fun j : Nat => tlB s.heap wq jq nq tq fsE fwE 1 x3.toInt lm.toNatClampNeg (16 * x1.toNatClampNeg) (seE sz.toInt (j : Int) (fI s.heap kq (16 * x2.toNatClampNeg + j)).toInt (fI s.heap gq (16 * x2.toNatClampNeg + j)).toInt (fI s.heap hq (16 * x2.toNatClampNeg + j)).toInt (fI s.heap xq (16 * x2.toNatClampNeg + j)).toInt)) x2016.toNatClampNeg; rw [← hsm9, ← hb2130]; omega)
  refine lv_iconst (v := 0) hx hb dX10_toneBy_0 (by decide) ?_
  refine lv_istore (lv' := [(4, .int 0), (0, .ref a0), (1, .int x1), (2, .int x2), (3, .int x3)]) hx hb dX10_toneBy_1 hl (by decide) rfl (fun ls2138 hl2139 => ?_)
  refine lv_iconst (v := 0) hx hb dX10_toneBy_3 (by decide) ?_
  refine lv_istore (lv' := [(5, .int 0), (4, .int 0), (0, .ref a0), (1, .int x1), (2, .int x2), (3, .int x3)]) hx hb dX10_toneBy_4 hl2139 (by decide) rfl (fun ls2140 hl2141 => ?_)
  refine lv_iconst (v := 0) hx hb dX10_toneBy_6 (by decide) ?_
  refine lv_istore (lv' := [(6, .int 0), (5, .int 0), (4, .int 0), (0, .ref a0), (1, .int x1), (2, .int x2), (3, .int x3)]) hx hb dX10_toneBy_7 hl2141 (by decide) rfl (fun ls2142 hl2143 => ?_)
  exact J9 ((16 - (0 : Int32).toInt).toNat + 1)  ls2142 s.heap [] (0) (0) (0) (lv_sub hl2143 [3, 4, 5, 6, 2, 1, 0] rfl) hT hS (by decide) (by decide) (by decide) emq eoq eaq esq euq enq etq efq ewq ejq eslq ekq egq ehq exq elm esz hg_CG f0_s_oq f0_s_aq f0_s_nq f0_s_tq f0_s_fq f0_s_wq f0_s_jq f0_s_slq f0_s_kq f0_s_gq f0_s_hq f0_s_xq (by omega) (by omega) (by rfl) (by rfl)
