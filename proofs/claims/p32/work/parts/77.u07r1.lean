/-! ===== the reference's search for blanks ===== -/
theorem i_neg {x z : Int32} (e : z = -x) (h : -2147483648 < x.toInt) : z.toInt = -x.toInt := by
  have hr := i_rng x
  rw [e, Int32.toInt_neg]
  exact Int.bmod_eq_of_le (by omega) (by omega)
def chB (gv br : Nat → Int) (sp b : Int) : Nat → Nat → Bool
  | 0, _ => true
  | k + 1, j => decide (gv j ≠ b ∧ br (gv j).toNat - br b.toNat ≤ sp ∧ br b.toNat - br (gv j).toNat ≤ sp) && chB gv br sp b k (j + 1)
theorem ch_go {gv br : Nat → Int} {sp b : Int} {p j i : Nat} (hj : j < p) (hi : i = j + 1) (h : gv j ≠ b ∧ br (gv j).toNat - br b.toNat ≤ sp ∧ br b.toNat - br (gv j).toNat ≤ sp) : chB gv br sp b (p - j) j = chB gv br sp b (p - i) i := by
  subst hi
  rw [show p - j = (p - (j + 1)) + 1 by omega]
  show (decide (gv j ≠ b ∧ br (gv j).toNat - br b.toNat ≤ sp ∧ br b.toNat - br (gv j).toNat ≤ sp) && chB gv br sp b (p - (j + 1)) (j + 1)) = _
  rw [decide_eq_true h]; rfl
theorem ch_no {gv br : Nat → Int} {sp b : Int} {p j : Nat} (hj : j < p) (h : ¬ (gv j ≠ b ∧ br (gv j).toNat - br b.toNat ≤ sp ∧ br b.toNat - br (gv j).toNat ≤ sp)) : chB gv br sp b (p - j) j = false := by
  rw [show p - j = (p - (j + 1)) + 1 by omega]
  show (decide (gv j ≠ b ∧ br (gv j).toNat - br b.toNat ≤ sp ∧ br b.toNat - br (gv j).toNat ≤ sp) && chB gv br sp b (p - (j + 1)) (j + 1)) = false
  rw [decide_eq_false h]; rfl
theorem ch_end {gv br : Nat → Int} {sp b : Int} {p j : Nat} (hj : p ≤ j) : chB gv br sp b (p - j) j = true := by
  rw [show p - j = 0 by omega]; rfl
theorem ch_all {gv br : Nat → Int} {sp b : Int} : ∀ (k j : Nat), chB gv br sp b k j = true → ∀ i : Nat, j ≤ i → i < j + k → gv i ≠ b ∧ br (gv i).toNat - br b.toNat ≤ sp ∧ br b.toNat - br (gv i).toNat ≤ sp
  | 0, j, _, i, h1, h2 => by omega
  | k + 1, j, h, i, h1, h2 => by
    have h : (decide (gv j ≠ b ∧ br (gv j).toNat - br b.toNat ≤ sp ∧ br b.toNat - br (gv j).toNat ≤ sp) && chB gv br sp b k (j + 1)) = true := h
    rw [Bool.and_eq_true] at h
    by_cases e : i = j
    · subst e; exact of_decide_eq_true h.1
    · exact ch_all k (j + 1) h.2 i (by omega) (by omega)
theorem ch_ex {gv br : Nat → Int} {sp b : Int} : ∀ (k j : Nat), chB gv br sp b k j = false → ∃ i : Nat, j ≤ i ∧ i < j + k ∧ ¬ (gv i ≠ b ∧ br (gv i).toNat - br b.toNat ≤ sp ∧ br b.toNat - br (gv i).toNat ≤ sp)
  | 0, j, h => by cases h
  | k + 1, j, h => by
    have h : (decide (gv j ≠ b ∧ br (gv j).toNat - br b.toNat ≤ sp ∧ br b.toNat - br (gv j).toNat ≤ sp) && chB gv br sp b k (j + 1)) = false := h
    by_cases c : gv j ≠ b ∧ br (gv j).toNat - br b.toNat ≤ sp ∧ br b.toNat - br (gv j).toNat ≤ sp
    · rw [decide_eq_true c, Bool.true_and] at h
      obtain ⟨i, h1, h2, h3⟩ := ch_ex k (j + 1) h
      exact ⟨i, by omega, by omega, h3⟩
    · exact ⟨j, Nat.le_refl _, by omega, c⟩
theorem chok_y {nl bl br gv : Nat → Int} {sp b : Int} {p : Nat} (h0 : ∀ j : Nat, j < p → 0 ≤ gv j) (hb : 0 ≤ b) (h2 : nl p ≤ bl b.toNat) (h : chB gv br sp b p 0 = true) : okB nl bl br sp (pr gv p) b.toNat = true := by
  unfold okB
  rw [pr_len, decide_eq_true h2, Bool.and_true]
  have h1 : b.toNat ∉ pr gv p := fun z => by
    obtain ⟨j, hj, e⟩ := pr_mem z
    have := (ch_all p 0 h j (Nat.zero_le _) (by omega)).1
    have := h0 j hj
    omega
  rw [decide_eq_true h1, Bool.true_and, List.all_eq_true]
  intro x hx
  obtain ⟨j, hj, e⟩ := pr_mem hx
  have := (ch_all p 0 h j (Nat.zero_le _) (by omega)).2
  rw [e] at this
  exact decide_eq_true this
theorem chok_n {nl bl br gv : Nat → Int} {sp b : Int} {p : Nat} (h0 : ∀ j : Nat, j < p → 0 ≤ gv j) (hb : 0 ≤ b) (h : chB gv br sp b p 0 = false) : okB nl bl br sp (pr gv p) b.toNat = false := by
  obtain ⟨j, _, hj, hc⟩ := ch_ex p 0 h
  have hj : j < p := by omega
  have hm := mem_pr (f := gv) hj
  by_cases e : gv j = b
  · rw [e] at hm; exact okB_n1 hm
  · unfold okB
    have : (pr gv p).all (fun x => decide (br x - br b.toNat ≤ sp ∧ br b.toNat - br x ≤ sp)) = false := by
      rw [List.all_eq_false]
      exact ⟨(gv j).toNat, hm, by rw [decide_eq_false (fun z => hc ⟨e, z⟩)]; decide⟩
    rw [this, Bool.and_false]
/-- the best so far -/
theorem up_no {nl bl : Nat → Int} {g : List Nat} {l w : Int} {L : List Nat} (hw : w = wsB nl bl g) (h : l ≠ -1 ∧ l ≤ w) : upB nl bl g (l, L) = (l, L) := by
  unfold upB
  rw [if_neg (by rw [← hw]; show ¬(l = -1 ∨ w < l); omega)]
theorem up_yes {nl bl : Nat → Int} {g : List Nat} {l w : Int} {L : List Nat} (hw : w = wsB nl bl g) (h : l = -1 ∨ w < l) : upB nl bl g (l, L) = (w, g) := by
  unfold upB
  rw [if_pos (by rw [← hw]; exact h), ← hw]
theorem pr_s {f g : Nat → Int} {j : Nat} (h : f j = g j) (hp : pr f j = pr g j) : pr f (j + 1) = pr g (j + 1) := by rw [pr, pr, h, hp]
theorem cl_le {p q : Int32} (h : p.toInt ≤ q.toInt) : p.toNatClampNeg ≤ q.toNatClampNeg := by
  show p.toInt.toNat ≤ q.toInt.toNat
  omega
theorem go_n0 {nl bl br f : Nat → Int} {sp r : Int} {m n : Nat} (hn : n = 0) (hr : r = 0) : goB nl bl br sp m n [] (-1, []) = (r, acL r f n) := by
  subst hn; subst hr
  show upB nl bl [] (-1, []) = _
  unfold upB acL
  rw [if_pos (Or.inl rfl), if_neg (by decide)]
  rfl
theorem pr_00 {f g : Nat → Int} {p q : Nat} (hp : p = 0) (hq : q = 0) : pr f p = pr g q := by subst hp; subst hq; rfl
theorem ws_00 {nl bl f : Nat → Int} {x : Int} {p : Nat} (hx : x = 0) (hp : p = 0) : x = wsB nl bl (pr f p) := by subst hx; subst hp; rfl
set_option maxHeartbeats 4000000 in
set_option maxRecDepth 100000 in
theorem a_X10_size_e (l : Launch) (K : KE) (G : Nat → Option Nat) (H : Heap) {a0 : Nat} (x1 : Int32) (hT : TY K G H) (ga0 : G a0 = some 112) (hx1 : (-99) ≤ x1.toInt ∧ x1.toInt ≤ 99) : MX l K yX10_size cX10_size 2 (some .int) 0 0 0 0 [.ref a0, .int x1] H (AE G [] H.size) (fun v H1 => ∃ (r : Int32), v = some (.int r) ∧ (0 ≤ r.toInt ∧ r.toInt ≤ 99) ∧ ((0 ≤ x1.toInt ∧ r.toInt = x1.toInt) ∨ (x1.toInt < 0 ∧ r.toInt = -x1.toInt)) ∧ TY K G H1) := by
  refine MX.of (by decide +kernel) (Nat.le_of_ble_eq_true rfl) ?_
  intro p e s m below meth c ls Q C hH hl hQ
  subst hH
  have C : CX p K s m _ meth c RX10 cX10_size 2 (some .int) "size" := C
  obtain ⟨hx, hb, hml, hown, hts, hKT, hr, hlocks, hnm⟩ := id C
  have hl : lv_has ls 2 [(0, .ref a0), (1, .int x1)] := hl
  have hS : va_S (AE G [] s.heap.size) s.heap s.heap [] := va_S.rf
  have n_0 : (0 : Int32).toInt = 0 := rfl
  have hap : ∀ x y, x < 74 → y < 74 → x ≠ y → K.1.2 10 x ≠ K.1.2 10 y := x_apart hKT hts inX10 tyX10 tyX10_ok nmX10 rfl
  refine lv_iload_n hx hb dX10_size_0 rfl (lv_at hl 1 rfl) ?_
  refine lv_if_ge (tgt := 9) hx hb dX10_size_1 (by decide) (fun c113 => ?_) (fun c113 => ?_)
  · have k114 := i_le c113
    refine lv_iload_n hx hb dX10_size_9 rfl (lv_at hl 1 rfl) ?_
    exact x_iret C hQ dX10_size_10 hS (by decide) (by decide) (⟨x1, rfl, by omega, by omega, hT⟩)
  · have k114 := i_nle c113
    refine lv_iload_n hx hb dX10_size_4 rfl (lv_at hl 1 rfl) ?_
    refine lv_ineg hx hb dX10_size_5 ?_
    refine lv_topi (fun x115 ex115 => ?_)
    have tx115 := i_neg ex115 (by omega)
    refine lv_goto (tgt := 10) hx hb dX10_size_6 (by decide) ?_
    exact x_iret C hQ dX10_size_10 hS (by decide) (by decide) (⟨x115, rfl, by omega, by omega, hT⟩)

set_option maxHeartbeats 4000000 in
set_option maxRecDepth 100000 in
theorem a_X10_canHave_e (l : Launch) (K : KE) (G : Nat → Option Nat) (H : Heap) {a0 : Nat} (x1 : Int32) (x2 : Int32) {gq : Nat} {nq : Nat} {lq : Nat} {kq : Nat} (bc : Int32) (nc : Int32) (gv : Nat → Int) (nl : Nat → Int) (bl : Nat → Int) (br : Nat → Int) (hT : TY K G H) (ga0 : G a0 = some 112) (hx1 : 0 ≤ x1.toInt ∧ x1.toInt ≤ 7) (hx2 : 0 ≤ x2.toInt ∧ x2.toInt ≤ 99) (ggq : G gq = some 160) (egq : gq = fR H a0 (K.1.2 10 68)) (gnq : G nq = some 157) (enq : nq = fR H a0 (K.1.2 10 64)) (glq : G lq = some 158) (elq : lq = fR H a0 (K.1.2 10 66)) (gkq : G kq = some 159) (ekq : kq = fR H a0 (K.1.2 10 67)) (ebc : bc = fI H a0 (K.1.2 10 65)) (enc : nc = fI H a0 (K.1.2 10 62)) (hp0 : x1.toInt < nc.toInt) (hy0 : ∀ j : Nat, j ≤ x1.toNatClampNeg → 0 ≤ gv j ∧ gv j < bc.toInt) (hy1 : ∀ j : Nat, j < nc.toNatClampNeg → 0 ≤ nl j ∧ nl j ≤ 99) (hy2 : ∀ j : Nat, j < bc.toNatClampNeg → 0 ≤ bl j ∧ bl j ≤ 99) (hy3 : ∀ j : Nat, j < bc.toNatClampNeg → 0 ≤ br j ∧ br j ≤ 99) (hv_gv : ∀ j : Nat, gv j = (fI H gq j).toInt) (hv_nl : ∀ j : Nat, nl j = (fI H nq j).toInt) (hv_bl : ∀ j : Nat, bl j = (fI H lq j).toInt) (hv_br : ∀ j : Nat, br j = (fI H kq j).toInt) : MX l K yX10_canHave cX10_canHave 5 (some .boolean) 1 21 0 0 [.ref a0, .int x1, .int x2] H (AE G [] H.size) (fun v H1 => ∃ (r : Int32), v = some (.int r) ∧ (0 ≤ r.toInt ∧ r.toInt ≤ 1) ∧ (HD ((r.toInt = 1 ∧ okB nl bl br x2.toInt (pr gv x1.toNatClampNeg) (gv x1.toNatClampNeg).toNat = true) ∨ (r.toInt = 0 ∧ okB nl bl br x2.toInt (pr gv x1.toNatClampNeg) (gv x1.toNatClampNeg).toNat = false))) ∧ TY K G H1) := by
  refine MX.of (by decide +kernel) (Nat.le_of_ble_eq_true rfl) ?_
  intro p e s m below meth c ls Q C hH hl hQ
  subst hH
  have C : CX p K s m _ meth c RX10 cX10_canHave 5 (some .boolean) "canHave" := C
  obtain ⟨hx, hb, hml, hown, hts, hKT, hr, hlocks, hnm⟩ := id C
  have hl : lv_has ls 5 [(0, .ref a0), (1, .int x1), (2, .int x2)] := hl
  have hS : va_S (AE G [] s.heap.size) s.heap s.heap [] := va_S.rf
  have n_0 : (0 : Int32).toInt = 0 := rfl
  have n_1 : (1 : Int32).toInt = 1 := rfl
  have bbc := ty_fi (x := bc) (k := 65) ebc hT ga0 rg_112 rfl
  have bnc := ty_fi (x := nc) (k := 62) enc hT ga0 rg_112 rfl
  have hap : ∀ x y, x < 74 → y < 74 → x ≠ y → K.1.2 10 x ≠ K.1.2 10 y := x_apart hKT hts inX10 tyX10 tyX10_ok nmX10 rfl
  have f0_gv := hv_gv
  have f0_nl := hv_nl
  have f0_bl := hv_bl
  have f0_br := hv_br
  have J27 : ∀ (nf : Nat)  (ls465 : Array Slot) (H464 : Heap) (locsH464 : List Loc) (x467 : Int32) (x468 : Int32), lv_has ls465 5 [(0, .ref a0), (1, .int x1), (2, .int x2), (3, .int x467), (4, .int x468)] → TY K G H464 → va_S (AE G [] s.heap.size) s.heap H464 locsH464 → (0 ≤ x467.toInt ∧ x467.toInt ≤ 7) → (0 ≤ x468.toInt ∧ x468.toInt ≤ 7) → (gq = fR H464 a0 (K.1.2 10 68)) → (nq = fR H464 a0 (K.1.2 10 64)) → (lq = fR H464 a0 (K.1.2 10 66)) → (kq = fR H464 a0 (K.1.2 10 67)) → (bc = fI H464 a0 (K.1.2 10 65)) → (nc = fI H464 a0 (K.1.2 10 62)) → (∀ j : Nat, gv j = (fI H464 gq j).toInt) → (∀ j : Nat, nl j = (fI H464 nq j).toInt) → (∀ j : Nat, bl j = (fI H464 lq j).toInt) → (∀ j : Nat, br j = (fI H464 kq j).toInt) → (7 - x468.toInt < (nf : Int)) → (x468.toInt ≤ x1.toInt) → (chB gv br x2.toInt (gv x1.toNatClampNeg) x1.toNatClampNeg 0 = chB gv br x2.toInt (gv x1.toNatClampNeg) (x1.toNatClampNeg - x468.toNatClampNeg) x468.toNatClampNeg) → (gv x1.toNatClampNeg = x467.toInt) → (nl x1.toNatClampNeg ≤ bl (gv x1.toNatClampNeg).toNat) → W p l e ({ frames := 1, cells := 0, slots := 0, locals := 21 } : Room) s m (([.ref a0, .int x1, .int x2] : List Value).toArray) below meth c H464 locsH464 0 0 Q (F0 m 27 ls465 []) := by
    intro nf
    induction nf with
    | zero =>
      intro  ls465 H464 locsH464 x467 x468 hl466 hTH464 hSH464 bx467 bx468 cy469_0 cy469_1 cy469_2 cy469_3 cy469_4 cy469_5 fy469_gv fy469_nl fy469_bl fy469_br hm27 iv27 hch27 hqb27 hnb27
      exfalso
      omega
    | succ nf ih27 =>
      intro  ls465 H464 locsH464 x467 x468 hl466 hTH464 hSH464 bx467 bx468 cy469_0 cy469_1 cy469_2 cy469_3 cy469_4 cy469_5 fy469_gv fy469_nl fy469_bl fy469_br hm27 iv27 hch27 hqb27 hnb27
      have cn_x468 := i_cl (x := x468) (by omega)
      have cn_x1 := i_cl (x := x1) (by omega)
      have cn_bc := i_cl (x := bc) (by omega)
      have cn_nc := i_cl (x := nc) (by omega)
      have cn_x467 := i_cl (x := x467) (by omega)
      have hgb_ := hy0 x1.toNatClampNeg (Nat.le_refl _)
      refine lv_iload hx hb dX10_canHave_27 (lv_at hl466 4 rfl) ?_
      refine lv_iload_n hx hb dX10_canHave_29 rfl (lv_at hl466 1 rfl) ?_
      refine lv_icmp_ge (tgt := 79) hx hb dX10_canHave_30 (by decide) (fun c470 => ?_) (fun c470 => ?_)
      · have k471 := i_le c470
        refine lv_iconst (v := 1) hx hb dX10_canHave_79 (by decide) ?_
        exact x_zret C hQ (Or.inr rfl) dX10_canHave_80 hSH464 (by decide) (by decide) (⟨1, rfl, by decide, HD.mk (Or.inl ⟨by omega, chok_y (fun j hj => (hy0 j (by omega)).1) hgb_.1 hnb27 (hch27.trans (ch_end (by omega)))⟩), hTH464⟩)
      · have k471 := i_nle c470
        refine lv_aload_n hx hb dX10_canHave_33 rfl (lv_at hl466 0 rfl) ?_
        refine x_gr C hTH464 (ci := 10) (k := 68) rfl inX10 (by decide) wF_X10_158 ga0 rg_112 rfl dX10_canHave_34 (fun q472 eq472 gq472 => ?_)
        have uq472 : gq = q472 := (cy469_0).trans eq472.symm
        subst uq472
        refine lv_iload hx hb dX10_canHave_37 (lv_at hl466 4 rfl) ?_
        refine x_ai C hTH464 ggq rg_160 ⟨by omega, by show _ < ((8 : Nat) : Int); omega⟩ dX10_canHave_39 (fun x473 ex473 bx473 => ?_)
        have qvx473 : gv x468.toNatClampNeg = x473.toInt := (fy469_gv _).trans (congrArg Int32.toInt ex473.symm)
        have hg_x473 : 0 ≤ x473.toInt ∧ x473.toInt < bc.toInt := by have c_ := i_cl (x := x468) (by omega); have d_ := i_cl (x := x1) (by omega); have q_ := hy0 x468.toNatClampNeg (by omega); omega
        refine lv_iload_n hx hb dX10_canHave_40 rfl (lv_at hl466 3 rfl) ?_
        refine lv_icmp_eq (tgt := 71) hx hb dX10_canHave_41 (by decide) (fun c474 => ?_) (fun c474 => ?_)
        · have k475 := i_eq c474
          refine lv_iconst (v := 0) hx hb dX10_canHave_71 (by decide) ?_
          exact x_zret C hQ (Or.inl rfl) dX10_canHave_72 hSH464 (by decide) (by decide) (⟨0, rfl, by decide, HD.mk (Or.inr ⟨by omega, chok_n (fun j hj => (hy0 j (by omega)).1) hgb_.1 (hch27.trans (ch_no (by omega) (fun z => z.1 (by omega))))⟩), hTH464⟩)
        · have k475 := i_ne c474
          refine lv_aload_n hx hb dX10_canHave_44 rfl (lv_at hl466 0 rfl) ?_
          refine lv_aload_n hx hb dX10_canHave_45 rfl (lv_at hl466 0 rfl) ?_
          refine x_gr C hTH464 (ci := 10) (k := 67) rfl inX10 (by decide) wF_X10_155 ga0 rg_112 rfl dX10_canHave_46 (fun q476 eq476 gq476 => ?_)
          have uq476 : kq = q476 := (cy469_3).trans eq476.symm
          subst uq476
          refine lv_aload_n hx hb dX10_canHave_49 rfl (lv_at hl466 0 rfl) ?_
          refine x_gr C hTH464 (ci := 10) (k := 68) rfl inX10 (by decide) wF_X10_158 ga0 rg_112 rfl dX10_canHave_50 (fun q477 eq477 gq477 => ?_)
          have uq477 : gq = q477 := (cy469_0).trans eq477.symm
          subst uq477
          refine lv_iload hx hb dX10_canHave_53 (lv_at hl466 4 rfl) ?_
          refine x_ai C hTH464 ggq rg_160 ⟨by omega, by show _ < ((8 : Nat) : Int); omega⟩ dX10_canHave_55 (fun x478 ex478 bx478 => ?_)
          have ux478 : x473 = x478 := (ex473).trans ex478.symm
          subst ux478
          have qvx478 : gv x468.toNatClampNeg = x473.toInt := (fy469_gv _).trans (congrArg Int32.toInt ex478.symm)
          have hg_x473 : 0 ≤ x473.toInt ∧ x473.toInt < bc.toInt := by have c_ := i_cl (x := x468) (by omega); have d_ := i_cl (x := x1) (by omega); have q_ := hy0 x468.toNatClampNeg (by omega); omega
          refine x_ai C hTH464 gkq rg_159 ⟨by omega, by show _ < ((8 : Nat) : Int); omega⟩ dX10_canHave_56 (fun x479 ex479 bx479 => ?_)
          have qvx479 : br x473.toNatClampNeg = x479.toInt := (fy469_br _).trans (congrArg Int32.toInt ex479.symm)
          have hn_x479 : 0 ≤ x479.toInt ∧ x479.toInt ≤ 99 := by have c_ := i_cl (x := x473) (by omega); have d_ := i_cl (x := bc) (by omega); have q_ := hy3 x473.toNatClampNeg (by omega); omega
          refine lv_aload_n hx hb dX10_canHave_57 rfl (lv_at hl466 0 rfl) ?_
          refine x_gr C hTH464 (ci := 10) (k := 67) rfl inX10 (by decide) wF_X10_155 ga0 rg_112 rfl dX10_canHave_58 (fun q480 eq480 gq480 => ?_)
          have uq480 : kq = q480 := (cy469_3).trans eq480.symm
          subst uq480
          refine lv_iload_n hx hb dX10_canHave_61 rfl (lv_at hl466 3 rfl) ?_
          refine x_ai C hTH464 gkq rg_159 ⟨by omega, by show _ < ((8 : Nat) : Int); omega⟩ dX10_canHave_62 (fun x481 ex481 bx481 => ?_)
          have qvx481 : br x467.toNatClampNeg = x481.toInt := (fy469_br _).trans (congrArg Int32.toInt ex481.symm)
          have hn_x481 : 0 ≤ x481.toInt ∧ x481.toInt ≤ 99 := by have c_ := i_cl (x := x467) (by omega); have d_ := i_cl (x := bc) (by omega); have q_ := hy3 x467.toNatClampNeg (by omega); omega
          refine lv_isub hx hb dX10_canHave_63 ?_
          refine lv_topi (fun x482 ex482 => ?_)
          have tx482 := i_sub ex482 (by omega)
          refine x_V (As := [.int x482]) (rest := []) C (a_X10_size_e l K G H464 (x482) hTH464 ga0 (by omega)) yo_X10_size wM_X10_309 ⟨⟨by decide, by decide⟩, by decide, by decide⟩ (x_rv C hTH464 (ci := 10) rfl ga0 rg_112) rfl hl466.1 rfl (Nat.le_of_ble_eq_true rfl) dX10_canHave_64 hSH464 (AE_sub (fun _ _ => rfl) (by decide) hSH464.1) (fun vH483 H483 locsH483 pH483 zH483 kH483 hSH483 => ?_)
          obtain ⟨x484, hvH483, bx484, hrH483, hTH483⟩ := pH483
          subst hvH483
          have f485 : ∀ j : Nat, gv j = (fI H483 gq j).toInt := fun j => (fy469_gv j).trans (congrArg Int32.toInt (fI_kept (x_lt hTH464 kH483 ggq (by decide))).symm)
          have f486 : ∀ j : Nat, nl j = (fI H483 nq j).toInt := fun j => (fy469_nl j).trans (congrArg Int32.toInt (fI_kept (x_lt hTH464 kH483 gnq (by decide))).symm)
          have f487 : ∀ j : Nat, bl j = (fI H483 lq j).toInt := fun j => (fy469_bl j).trans (congrArg Int32.toInt (fI_kept (x_lt hTH464 kH483 glq (by decide))).symm)
          have f488 : ∀ j : Nat, br j = (fI H483 kq j).toInt := fun j => (fy469_br j).trans (congrArg Int32.toInt (fI_kept (x_lt hTH464 kH483 gkq (by decide))).symm)
          have m489 := (cy469_0).trans (fR_kept (x_lt hTH464 kH483 ga0 (by decide))).symm
          have m490 := (cy469_1).trans (fR_kept (x_lt hTH464 kH483 ga0 (by decide))).symm
          have m491 := (cy469_2).trans (fR_kept (x_lt hTH464 kH483 ga0 (by decide))).symm
          have m492 := (cy469_3).trans (fR_kept (x_lt hTH464 kH483 ga0 (by decide))).symm
          have m493 := (cy469_4).trans (fI_kept (x_lt hTH464 kH483 ga0 (by decide))).symm
          have m494 := (cy469_5).trans (fI_kept (x_lt hTH464 kH483 ga0 (by decide))).symm
          have m495 := (ex473).trans (fI_kept (x_lt hTH464 kH483 ggq (by decide))).symm
          have m496 := (ex479).trans (fI_kept (x_lt hTH464 kH483 gkq (by decide))).symm
          have m497 := (ex481).trans (fI_kept (x_lt hTH464 kH483 gkq (by decide))).symm
          refine W.eq (g2 := F0 m 67 ls465 [.int x484]) rfl ?_
          refine lv_iload_n hx hb dX10_canHave_67 rfl (lv_at hl466 2 rfl) ?_
          refine lv_icmp_le (tgt := 73) hx hb dX10_canHave_68 (by decide) (fun c498 => ?_) (fun c498 => ?_)
          · have k499 := i_le c498
            obtain ⟨x500, ex500⟩ : ∃ y : Int32, y = x468 + 1 := ⟨_, rfl⟩
            have tx500 := i_add ex500 (by omega)
            refine lv_iinc (v := x500) (lv' := [(4, .int x500), (0, .ref a0), (1, .int x1), (2, .int x2), (3, .int x467)]) hx hb dX10_canHave_73 hl466 (k := 4) rfl (by rw [ex500]; rfl) (by decide) rfl (fun ls501 hl502 => ?_)
            refine lv_goto (tgt := 27) hx hb dX10_canHave_76 (by decide) ?_
            have cn_x500 := i_cl (x := x500) (by omega)
            have tb_x467 : x467.toNatClampNeg = (x467.toInt).toNat := by have c_ := i_cl (x := x467) (by omega); omega
            have cn_x473 := i_cl (x := x473) (by omega)
            have qr1_ : br (gv x468.toNatClampNeg).toNat = _ := (congrArg br (show (gv x468.toNatClampNeg).toNat = x473.toNatClampNeg by omega)).trans qvx479
            have qr2_ : br x467.toInt.toNat = _ := (congrArg br (show x467.toInt.toNat = x467.toNatClampNeg by omega)).trans qvx481
            exact ih27  ls501 H483 locsH483 (x467) (x500) (lv_sub hl502 [1, 2, 3, 4, 0] rfl) hTH483 hSH483 (by have := i_rng x467; omega) (by have := i_rng x500; omega) m489 m490 m491 m492 m493 m494 f485 f486 f487 f488 (by omega) (by omega) (hch27.trans (ch_go (by omega) (by omega) (by rw [hqb27]; omega))) hqb27 hnb27
          · have k499 := i_nle c498
            refine lv_iconst (v := 0) hx hb dX10_canHave_71 (by decide) ?_
            have tb_x467 : x467.toNatClampNeg = (x467.toInt).toNat := by have c_ := i_cl (x := x467) (by omega); omega
            have cn_x473 := i_cl (x := x473) (by omega)
            have qr1_ : br (gv x468.toNatClampNeg).toNat = _ := (congrArg br (show (gv x468.toNatClampNeg).toNat = x473.toNatClampNeg by omega)).trans qvx479
            have qr2_ : br x467.toInt.toNat = _ := (congrArg br (show x467.toInt.toNat = x467.toNatClampNeg by omega)).trans qvx481
            exact x_zret C hQ (Or.inl rfl) dX10_canHave_72 hSH483 (by decide) (by decide) (⟨0, rfl, by decide, HD.mk (Or.inr ⟨by omega, chok_n (fun j hj => (hy0 j (by omega)).1) hgb_.1 (hch27.trans (ch_no (by omega) (by rw [hqb27]; omega)))⟩), hTH483⟩)
  have cn_x1 := i_cl (x := x1) (by omega)
  have cn_bc := i_cl (x := bc) (by omega)
  have cn_nc := i_cl (x := nc) (by omega)
  refine lv_aload_n hx hb dX10_canHave_0 rfl (lv_at hl 0 rfl) ?_
  refine x_gr C hT (ci := 10) (k := 68) rfl inX10 (by decide) wF_X10_158 ga0 rg_112 rfl dX10_canHave_1 (fun q503 eq503 gq503 => ?_)
  have uq503 : gq = q503 := (egq).trans eq503.symm
  subst uq503
  refine lv_iload_n hx hb dX10_canHave_4 rfl (lv_at hl 1 rfl) ?_
  refine x_ai C hT ggq rg_160 ⟨by omega, by show _ < ((8 : Nat) : Int); omega⟩ dX10_canHave_5 (fun x504 ex504 bx504 => ?_)
  have qvx504 : gv x1.toNatClampNeg = x504.toInt := (f0_gv _).trans (congrArg Int32.toInt ex504.symm)
  have hg_x504 : 0 ≤ x504.toInt ∧ x504.toInt < bc.toInt := by have c_ := i_cl (x := x1) (by omega); have d_ := i_cl (x := x1) (by omega); have q_ := hy0 x1.toNatClampNeg (by omega); omega
  refine lv_istore_n (lv' := [(3, .int x504), (0, .ref a0), (1, .int x1), (2, .int x2)]) hx hb dX10_canHave_6 rfl hl (by decide) rfl (fun ls505 hl506 => ?_)
  refine lv_aload_n hx hb dX10_canHave_7 rfl (lv_at hl506 1 rfl) ?_
  refine x_gr C hT (ci := 10) (k := 66) rfl inX10 (by decide) wF_X10_152 ga0 rg_112 rfl dX10_canHave_8 (fun q507 eq507 gq507 => ?_)
  have uq507 : lq = q507 := (elq).trans eq507.symm
  subst uq507
  refine lv_iload_n hx hb dX10_canHave_11 rfl (lv_at hl506 0 rfl) ?_
  refine x_ai C hT glq rg_158 ⟨by omega, by show _ < ((8 : Nat) : Int); omega⟩ dX10_canHave_12 (fun x508 ex508 bx508 => ?_)
  have qvx508 : bl x504.toNatClampNeg = x508.toInt := (f0_bl _).trans (congrArg Int32.toInt ex508.symm)
  have hn_x508 : 0 ≤ x508.toInt ∧ x508.toInt ≤ 99 := by have c_ := i_cl (x := x504) (by omega); have d_ := i_cl (x := bc) (by omega); have q_ := hy2 x504.toNatClampNeg (by omega); omega
  refine lv_aload_n hx hb dX10_canHave_13 rfl (lv_at hl506 1 rfl) ?_
  refine x_gr C hT (ci := 10) (k := 64) rfl inX10 (by decide) wF_X10_149 ga0 rg_112 rfl dX10_canHave_14 (fun q509 eq509 gq509 => ?_)
  have uq509 : nq = q509 := (enq).trans eq509.symm
  subst uq509
  refine lv_iload_n hx hb dX10_canHave_17 rfl (lv_at hl506 2 rfl) ?_
  refine x_ai C hT gnq rg_157 ⟨by omega, by show _ < ((8 : Nat) : Int); omega⟩ dX10_canHave_18 (fun x510 ex510 bx510 => ?_)
  have qvx510 : nl x1.toNatClampNeg = x510.toInt := (f0_nl _).trans (congrArg Int32.toInt ex510.symm)
  have hn_x510 : 0 ≤ x510.toInt ∧ x510.toInt ≤ 99 := by have c_ := i_cl (x := x1) (by omega); have d_ := i_cl (x := nc) (by omega); have q_ := hy1 x1.toNatClampNeg (by omega); omega
  refine lv_icmp_ge (tgt := 24) hx hb dX10_canHave_19 (by decide) (fun c511 => ?_) (fun c511 => ?_)
  · have k512 := i_le c511
    refine lv_iconst (v := 0) hx hb dX10_canHave_24 (by decide) ?_
    refine lv_istore (lv' := [(4, .int 0), (3, .int x504), (0, .ref a0), (1, .int x1), (2, .int x2)]) hx hb dX10_canHave_25 hl506 (by decide) rfl (fun ls513 hl514 => ?_)
    have tb_x504 : x504.toNatClampNeg = (x504.toInt).toNat := by have c_ := i_cl (x := x504) (by omega); omega
    have ql_ : bl (gv x1.toNatClampNeg).toNat = _ := (congrArg bl (show (gv x1.toNatClampNeg).toNat = x504.toNatClampNeg by omega)).trans qvx508
    exact J27 ((7 - (0 : Int32).toInt).toNat + 1)  ls513 s.heap [] (x504) (0) (lv_sub hl514 [2, 3, 4, 1, 0] rfl) hT hS (by have := i_rng x504; omega) (by decide) egq enq elq ekq ebc enc f0_gv f0_nl f0_bl f0_br (by omega) (by omega) rfl qvx504 (by omega)
  · have k512 := i_nle c511
    refine lv_iconst (v := 0) hx hb dX10_canHave_22 (by decide) ?_
    have tb_x504 : x504.toNatClampNeg = (x504.toInt).toNat := by have c_ := i_cl (x := x504) (by omega); omega
    have ql_ : bl (gv x1.toNatClampNeg).toNat = _ := (congrArg bl (show (gv x1.toNatClampNeg).toNat = x504.toNatClampNeg by omega)).trans qvx508
    exact x_zret C hQ (Or.inl rfl) dX10_canHave_23 hS (by decide) (by decide) (⟨0, rfl, by decide, HD.mk (Or.inr ⟨by omega, okB_n2 (pr_len _) (by omega)⟩), hT⟩)
