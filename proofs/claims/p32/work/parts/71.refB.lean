/-- what omega shall not see -/
def HD (p : Prop) : Prop := p
theorem HD.mk {p : Prop} (h : p) : HD p := h
theorem HD.out {p : Prop} (h : HD p) : p := h
def PQ (f : Nat → Int32) (n : Nat) (o k : Int) (b : Nat) (d : Int) : Prop := PD f n ∧ (cO f n : Int) ≤ o ∧ (cK f n : Int) = k ∧ cB f n = b ∧ (d = 1 ∨ n = 0 ∨ (f (n - 1)).toInt ≠ 9)
theorem PQ.congr {f f1 : Nat → Int32} {n : Nat} {o k d : Int} {b : Nat} (e : ∀ j, f1 j = f j) (h : PQ f n o k b d) : PQ f1 n o k b d := by rw [show f1 = f from funext e]; exact h
theorem PQ.cast {f : Nat → Int32} {n n' : Nat} {o k d o' k' d' : Int} {b b' : Nat} (h : PQ f n o k b d) (hn : n' = n) (ho : o ≤ o') (hk : k' = k) (hb : b' = b) (hd : d' = d) : PQ f n' o' k' b' d' := by
  rw [hn, hk, hb, hd]
  exact ⟨h.1, Int.le_trans h.2.1 ho, h.2.2⟩
theorem PQ.push {f f1 : Nat → Int32} {n m : Nat} {o k d o' k' v : Int} {b b' : Nat} (h : PQ f n o k b d) (hx : (f1 n).toInt = v) (ho : ∀ j, j ≠ n → f1 j = f j) (hm : m = n + 1)
    (hv : (v = 9 ∧ o' = o + 1 ∧ k' = k ∧ b' = b) ∨ (v = 12 ∧ o' = o + 1 ∧ k' = k + 1 ∧ b' = b) ∨ (v = 10 ∧ o' = o ∧ k' = k ∧ b' = b + 1 ∧ (n = 0 ∨ (f (n - 1)).toInt = 11 ∨ (f (n - 1)).toInt = 12)) ∨ (v = 11 ∧ o' = o ∧ k' = k ∧ b' = b + 1 ∧ (n = 0 ∨ (f (n - 1)).toInt = 12))) : PQ f1 m o' k' b' 1 := by
  have e : ∀ j, j < n → f1 j = f j := fun j hj => ho j (by omega)
  have c1 := cO_congr n e
  have c2 := cB_congr n e
  have c3 := cK_congr n e
  have hs := c_step (f := f1) (n := n) (m := m) hm
  obtain ⟨p1, p2, p3, p4, -⟩ := h
  refine ⟨p1.push e hm (by omega), ?_, ?_, ?_, Or.inl rfl⟩
  · rcases hv with q | q | q | q
    · have := hs.1 (by omega); omega
    · have := hs.2.2 (by omega); omega
    · have := hs.2.1 (by omega); omega
    · have := hs.2.1 (by omega); omega
  · rcases hv with q | q | q | q
    · have := hs.1 (by omega); omega
    · have := hs.2.2 (by omega); omega
    · have := hs.2.1 (by omega); omega
    · have := hs.2.1 (by omega); omega
  · rcases hv with q | q | q | q
    · have := hs.1 (by omega); omega
    · have := hs.2.2 (by omega); omega
    · have := hs.2.1 (by omega); omega
    · have := hs.2.1 (by omega); omega
theorem PQ.settle {f : Nat → Int32} {n n' : Nat} {o k d o' w : Int} {b : Nat} (h : PQ f n o k b d) (hn : n' ≤ n) (hO : (cO f n' : Int) ≤ o') (hK : cK f n' = cK f n) (hw : w = 9 ∨ w = 10 ∨ w = 11) (ht : n' = 0 ∨ (f (n' - 1)).toInt ≠ w) (hl : n' = n ∨ (f n').toInt = w) (hd : w = 9 ∨ d ≠ 1) : PQ f n' o' k (cB f n') 0 := by
  obtain ⟨p1, p2, p3, p4, p5⟩ := h
  refine ⟨p1.pre hn, hO, by rw [hK]; exact p3, rfl, Or.inr ?_⟩
  rcases hl with q | q
  · subst q
    omega
  · by_cases z : n' = n
    · subst z
      omega
    · have := p1 n' (by omega)
      omega
theorem PQ.top10 {f : Nat → Int32} {n : Nat} {o k : Int} {b : Nat} (h : PQ f n o k b 0) (ht : n = 0 ∨ (f (n - 1)).toInt ≠ 10) : n = 0 ∨ (f (n - 1)).toInt = 11 ∨ (f (n - 1)).toInt = 12 := by
  obtain ⟨p1, -, -, -, p5⟩ := h
  by_cases z : n = 0
  · exact Or.inl z
  · have := p1 (n - 1) (by omega)
    omega
theorem PQ.top11 {f : Nat → Int32} {n n' : Nat} {o k : Int} {b : Nat} (h : PQ f n o k b 0) (h1 : n = 0 ∨ (f (n - 1)).toInt = 11 ∨ (f (n - 1)).toInt = 12) (hn : n' ≤ n) (hl : n' = n ∨ (f n').toInt = 11) (ht : n' = 0 ∨ (f (n' - 1)).toInt ≠ 11) : n' = 0 ∨ (f (n' - 1)).toInt = 12 := by
  by_cases z : n' = n
  · subst z; omega
  · have := h.1 n' (by omega)
    omega
theorem PQ.pop12 {f : Nat → Int32} {n m : Nat} {o k d o' k' : Int} {b : Nat} (h : PQ f n o k b d) (ht : (f m).toInt = 12) (hm : n = m + 1) (ho : o' = o - 1) (hk : k' = k - 1) : PQ f m o' k' b 1 := by
  obtain ⟨p1, p2, p3, p4, -⟩ := h
  have hs := (c_step (f := f) (n := m) (m := n) hm).2.2 ht
  exact ⟨p1.pre (by omega), by omega, by omega, by omega, Or.inl rfl⟩
theorem cK_le {f : Nat → Int32} : ∀ n : Nat, cK f n ≤ cO f n := by
  intro n
  induction n with
  | zero => exact Nat.le_refl _
  | succ n ih =>
    rw [cK, cO]
    by_cases h : (f n).toInt = 12
    · rw [if_pos h, if_pos (Or.inr h)]; omega
    · rw [if_neg h]; split <;> omega
set_option maxHeartbeats 4000000 in
set_option maxRecDepth 100000 in
theorem a_X10_readAny (l : Launch) (K : KE) (G : Nat → Option Nat) (H : Heap) {a0 : Nat} {oq : Nat} {aq : Nat} {pq : Nat} (sp : Int32) (fr : Int32) (tk : Int32) (vl : Int32) (mn : Int32) (on : Int32) (pn : Int32) (tp : Int32) (jb : Int32) (hT : TY K G H) (ga0 : G a0 = some 112) (goq : G oq = some 136) (eoq : oq = fR H a0 (K.1.2 10 32)) (gaq : G aq = some 137) (eaq : aq = fR H a0 (K.1.2 10 33)) (gpq : G pq = some 138) (epq : pq = fR H a0 (K.1.2 10 37)) (esp : sp = fI H a0 (K.1.2 10 19)) (efr : fr = fI H a0 (K.1.2 10 20)) (etk : tk = fI H a0 (K.1.2 10 21)) (evl : vl = fI H a0 (K.1.2 10 22)) (emn : mn = fI H a0 (K.1.2 10 35)) (eon : on = fI H a0 (K.1.2 10 36)) (epn : pn = fI H a0 (K.1.2 10 38)) (etp : tp = fI H a0 (K.1.2 10 18)) (ejb : jb = fI H a0 (K.1.2 10 34)) (hg_CG : CG (avw K H a0)) (hg_TU : TU (avw K H a0) (svw K H a0)) (hg_WD : WD (avw K H a0)) (hg_IM : IM (avw K H a0)) (hp0 : (sp.toInt ≤ tp.toInt ∧ fr.toInt ≤ sp.toInt ∧ (tk.toInt = 0 ∨ fr.toInt < sp.toInt) ∧ (tk.toInt ≠ 2 ∨ (0 ≤ vl.toInt ∧ vl.toInt ≤ 23)))) (hp1 : mn.toInt ≤ fr.toInt) : MX l K yX10_readAny cX10_readAny 4 (some .int) 7 149 0 0 [.ref a0] H (AE G [112, 136, 137, 138] H.size) (fun v H1 => ∃ (r : Int32) (t0 : Int32) (t1 : Int32) (t2 : Int32) (t3 : Int32) (t4 : Int32) (t5 : Int32) (t6 : Int32), v = some (.int r) ∧ ((-1) ≤ r.toInt ∧ r.toInt ≤ 0) ∧ t0 = fI H1 a0 (K.1.2 10 19) ∧ t1 = fI H1 a0 (K.1.2 10 20) ∧ t2 = fI H1 a0 (K.1.2 10 21) ∧ t3 = fI H1 a0 (K.1.2 10 22) ∧ t4 = fI H1 a0 (K.1.2 10 35) ∧ t5 = fI H1 a0 (K.1.2 10 36) ∧ t6 = fI H1 a0 (K.1.2 10 38) ∧ (r.toInt = -1 ∨ (r.toInt = 0 ∧ (t0.toInt ≤ tp.toInt ∧ t1.toInt ≤ t0.toInt ∧ (t2.toInt = 0 ∨ t1.toInt < t0.toInt) ∧ (t2.toInt ≠ 2 ∨ (0 ≤ t3.toInt ∧ t3.toInt ≤ 23))) ∧ t4.toInt + fr.toInt ≤ mn.toInt + t1.toInt ∧ mn.toInt ≤ t4.toInt ∧ fr.toInt ≤ t1.toInt)) ∧ oq = fR H1 a0 (K.1.2 10 32) ∧ aq = fR H1 a0 (K.1.2 10 33) ∧ pq = fR H1 a0 (K.1.2 10 37) ∧ (CG (avw K H1 a0)) ∧ (TU (avw K H1 a0) (svw K H1 a0)) ∧ (WD (avw K H1 a0)) ∧ (IM (avw K H1 a0)) ∧ MF K H H1 a0 [19, 20, 21, 22, 35, 36, 38, 39, 40] ∧ (∀ j : Nat, j < 3000 + mn.toNatClampNeg → fI H1 oq j = fI H oq j ∧ fI H1 aq j = fI H aq j) ∧ (r.toInt = -1 ∨ ∃ E, WF (fun k => fI H1 oq k) (fun k => fI H1 aq k) (3000 + mn.toNatClampNeg) (3000 + t4.toNatClampNeg) 0 E) ∧ TY K G H1) := by
  refine MX.of (by decide +kernel) (Nat.le_of_ble_eq_true rfl) ?_
  intro p e s m below meth c ls Q C hH hl hQ
  subst hH
  have C : CX p K s m _ meth c RX10 cX10_readAny 4 (some .int) "readAny" := C
  obtain ⟨hx, hb, hml, hown, hts, hKT, hr, hlocks, hnm⟩ := id C
  have hl : lv_has ls 4 [(0, .ref a0)] := hl
  have hS : va_S (AE G [112, 136, 137, 138] s.heap.size) s.heap s.heap [] := va_S.rf
  have n_m1 : ((-1) : Int32).toInt = -1 := rfl
  have n_0 : (0 : Int32).toInt = 0 := rfl
  have n_1 : (1 : Int32).toInt = 1 := rfl
  have n_3 : (3 : Int32).toInt = 3 := rfl
  have n_7 : (7 : Int32).toInt = 7 := rfl
  have n_8 : (8 : Int32).toInt = 8 := rfl
  have n_9 : (9 : Int32).toInt = 9 := rfl
  have n_10 : (10 : Int32).toInt = 10 := rfl
  have n_11 : (11 : Int32).toInt = 11 := rfl
  have n_12 : (12 : Int32).toInt = 12 := rfl
  have n_40 : (40 : Int32).toInt = 40 := rfl
  have n_41 : (41 : Int32).toInt = 41 := rfl
  have bsp := ty_fi (x := sp) (k := 19) esp hT ga0 rg_112 rfl
  have bfr := ty_fi (x := fr) (k := 20) efr hT ga0 rg_112 rfl
  have btk := ty_fi (x := tk) (k := 21) etk hT ga0 rg_112 rfl
  have bvl := ty_fi (x := vl) (k := 22) evl hT ga0 rg_112 rfl
  have bmn := ty_fi (x := mn) (k := 35) emn hT ga0 rg_112 rfl
  have bon := ty_fi (x := on) (k := 36) eon hT ga0 rg_112 rfl
  have bpn := ty_fi (x := pn) (k := 38) epn hT ga0 rg_112 rfl
  have btp := ty_fi (x := tp) (k := 18) etp hT ga0 rg_112 rfl
  have bjb := ty_fi (x := jb) (k := 34) ejb hT ga0 rg_112 rfl
  have hap : ∀ x y, x < 74 → y < 74 → x ≠ y → K.1.2 10 x ≠ K.1.2 10 y := x_apart hKT hts inX10 tyX10 tyX10_ok nmX10 rfl
  have mf0 : MF K s.heap s.heap a0 [19, 20, 21, 22, 35, 36, 38, 39, 40] := fun _ _ _ => rfl
  replace eoq := EQN.mk eoq
  replace eaq := EQN.mk eaq
  replace epq := EQN.mk epq
  have J9 : ∀ (nf : Nat) (B : Nat) (ls6400 : Array Slot) (H6399 : Heap) (locsH6399 : List Loc) (x6402 : Int32) (x6403 : Int32) (x6404 : Int32) (x6405 : Int32) (x6406 : Int32) (x6407 : Int32) (x6408 : Int32) (x6409 : Int32) (x6410 : Int32), lv_has ls6400 4 [(0, .ref a0), (1, .int x6402), (2, .int x6403)] → TY K G H6399 → va_S (AE G [112, 136, 137, 138] s.heap.size) s.heap H6399 locsH6399 → (0 ≤ x6402.toInt ∧ x6402.toInt ≤ 8) → (0 ≤ x6403.toInt ∧ x6403.toInt ≤ 1) → (0 ≤ x6404.toInt ∧ x6404.toInt ≤ 500) → (0 ≤ x6405.toInt ∧ x6405.toInt ≤ 500) → (0 ≤ x6408.toInt ∧ x6408.toInt ≤ 500) → (0 ≤ x6409.toInt ∧ x6409.toInt ≤ 8) → (0 ≤ x6410.toInt ∧ x6410.toInt ≤ 40) → (x6404 = fI H6399 a0 (K.1.2 10 19)) → (x6405 = fI H6399 a0 (K.1.2 10 20)) → (x6406 = fI H6399 a0 (K.1.2 10 21)) → (x6407 = fI H6399 a0 (K.1.2 10 22)) → (x6408 = fI H6399 a0 (K.1.2 10 35)) → (x6409 = fI H6399 a0 (K.1.2 10 36)) → (x6410 = fI H6399 a0 (K.1.2 10 38)) → (EQN oq (fR H6399 a0 (K.1.2 10 32))) → (EQN aq (fR H6399 a0 (K.1.2 10 33))) → (EQN pq (fR H6399 a0 (K.1.2 10 37))) → (tp = fI H6399 a0 (K.1.2 10 18)) → (jb = fI H6399 a0 (K.1.2 10 34)) → (∀ j : Nat, j < 3000 + mn.toNatClampNeg → fI H6399 oq j = fI s.heap oq j ∧ fI H6399 aq j = fI s.heap aq j) → (WF (fun k => fI H6399 oq k) (fun k => fI H6399 aq k) (3000 + mn.toNatClampNeg) (3000 + x6408.toNatClampNeg) 0 (B + 1 - x6403.toNatClampNeg)) → (PQ (fun j => fI H6399 pq j) (x6410.toNatClampNeg) (x6409.toInt) (x6402.toInt) (B) (x6403.toInt)) → (MF K s.heap H6399 a0 [19, 20, 21, 22, 35, 36, 38, 39, 40]) → (CG (avw K H6399 a0)) → (TU (avw K H6399 a0) (svw K H6399 a0)) → (WD (avw K H6399 a0)) → (IM (avw K H6399 a0)) → (500 - x6405.toInt < (nf : Int)) → ((x6404.toInt ≤ tp.toInt ∧ x6405.toInt ≤ x6404.toInt ∧ (x6406.toInt = 0 ∨ x6405.toInt < x6404.toInt) ∧ (x6406.toInt ≠ 2 ∨ (0 ≤ x6407.toInt ∧ x6407.toInt ≤ 23))) ∧ x6408.toInt + x6410.toInt + fr.toInt ≤ mn.toInt + x6405.toInt ∧ mn.toInt ≤ x6408.toInt ∧ fr.toInt ≤ x6405.toInt) → W p l e ({ frames := 7, cells := 0, slots := 0, locals := 149 } : Room) s m (([.ref a0] : List Value).toArray) below meth c H6399 locsH6399 0 0 Q (F0 m 9 ls6400 []) := by
    intro nf
    induction nf with
    | zero =>
      intro B ls6400 H6399 locsH6399 x6402 x6403 x6404 x6405 x6406 x6407 x6408 x6409 x6410 hl6401 hTH6399 hSH6399 bx6402 bx6403 bx6404 bx6405 bx6408 bx6409 bx6410 ex6404 ex6405 ex6406 ex6407 ex6408 ex6409 ex6410 cy6411_0 cy6411_1 cy6411_2 cy6411_3 cy6411_4 by6411_pf by6411_wf by6411_pq mfy6411 gy6411_CG gy6411_TU gy6411_WD gy6411_IM hm9 iv9 
      have rx6406 := i_rng x6406
      have rx6407 := i_rng x6407
      exfalso
      omega
    | succ nf ih9 =>
      intro B ls6400 H6399 locsH6399 x6402 x6403 x6404 x6405 x6406 x6407 x6408 x6409 x6410 hl6401 hTH6399 hSH6399 bx6402 bx6403 bx6404 bx6405 bx6408 bx6409 bx6410 ex6404 ex6405 ex6406 ex6407 ex6408 ex6409 ex6410 cy6411_0 cy6411_1 cy6411_2 cy6411_3 cy6411_4 by6411_pf by6411_wf by6411_pq mfy6411 gy6411_CG gy6411_TU gy6411_WD gy6411_IM hm9 iv9 
      have rx6406 := i_rng x6406
      have rx6407 := i_rng x6407
      obtain ⟨⟨i1, i2, i3, i4⟩, i5, i6, i7⟩ := iv9
      have cdue := i_cl (x := x6403) (by omega)
      have J175 : ∀ (ls6413 : Array Slot) (H6412 : Heap) (locsH6412 : List Loc) (x6416 : Int32) (x6417 : Int32) (x6418 : Int32) (x6419 : Int32) (x6420 : Int32) (x6421 : Int32) (x6422 : Int32), lv_has ls6413 4 [(0, .ref a0), (1, .int x6402), (2, .int x6403)] → TY K G H6412 → va_S (AE G [112, 136, 137, 138] s.heap.size) s.heap H6412 locsH6412 → (0 ≤ x6403.toInt ∧ x6403.toInt ≤ 0) → (0 ≤ x6416.toInt ∧ x6416.toInt ≤ 500) → (0 ≤ x6417.toInt ∧ x6417.toInt ≤ 500) → (0 ≤ x6420.toInt ∧ x6420.toInt ≤ 500) → (0 ≤ x6421.toInt ∧ x6421.toInt ≤ 8) → (0 ≤ x6422.toInt ∧ x6422.toInt ≤ 40) → (x6416 = fI H6412 a0 (K.1.2 10 19)) → (x6417 = fI H6412 a0 (K.1.2 10 20)) → (x6418 = fI H6412 a0 (K.1.2 10 21)) → (x6419 = fI H6412 a0 (K.1.2 10 22)) → (x6420 = fI H6412 a0 (K.1.2 10 35)) → (x6421 = fI H6412 a0 (K.1.2 10 36)) → (x6422 = fI H6412 a0 (K.1.2 10 38)) → (EQN oq (fR H6412 a0 (K.1.2 10 32))) → (EQN aq (fR H6412 a0 (K.1.2 10 33))) → (EQN pq (fR H6412 a0 (K.1.2 10 37))) → (tp = fI H6412 a0 (K.1.2 10 18)) → (jb = fI H6412 a0 (K.1.2 10 34)) → (∀ j : Nat, j < 3000 + mn.toNatClampNeg → fI H6412 oq j = fI s.heap oq j ∧ fI H6412 aq j = fI s.heap aq j) → (WF (fun k => fI H6412 oq k) (fun k => fI H6412 aq k) (3000 + mn.toNatClampNeg) (3000 + x6420.toNatClampNeg) 0 (B + 1 - x6403.toNatClampNeg)) → (PQ (fun j => fI H6412 pq j) (x6422.toNatClampNeg) (x6421.toInt) (x6402.toInt) (B) (x6403.toInt)) → (MF K s.heap H6412 a0 [19, 20, 21, 22, 35, 36, 38, 39, 40]) → (CG (avw K H6412 a0)) → (TU (avw K H6412 a0) (svw K H6412 a0)) → (WD (avw K H6412 a0)) → (IM (avw K H6412 a0)) → ((x6416.toInt ≤ tp.toInt ∧ x6417.toInt ≤ x6416.toInt ∧ (x6418.toInt = 0 ∨ x6417.toInt < x6416.toInt) ∧ (x6418.toInt ≠ 2 ∨ (0 ≤ x6419.toInt ∧ x6419.toInt ≤ 23))) ∧ x6420.toInt + x6422.toInt + fr.toInt ≤ mn.toInt + x6417.toInt ∧ mn.toInt ≤ x6420.toInt ∧ fr.toInt ≤ x6417.toInt ∧ x6417.toInt = x6405.toInt) → W p l e ({ frames := 7, cells := 0, slots := 0, locals := 149 } : Room) s m (([.ref a0] : List Value).toArray) below meth c H6412 locsH6412 0 0 Q (F0 m 175 ls6413 []) := by
        intro ls6413 H6412 locsH6412 x6416 x6417 x6418 x6419 x6420 x6421 x6422 hl6414 hTH6412 hSH6412 b6415 bx6416 bx6417 bx6420 bx6421 bx6422 ex6416 ex6417 ex6418 ex6419 ex6420 ex6421 ex6422 cy6423_0 cy6423_1 cy6423_2 cy6423_3 cy6423_4 by6423_pf by6423_wf by6423_pq mfy6423 gy6423_CG gy6423_TU gy6423_WD gy6423_IM iv175
        clear i1 i2 i3 i4 i5 i6 i7
        obtain ⟨⟨i1, i2, i3, i4⟩, i5, i6, i7, i8⟩ := iv175
        refine lv_aload_n hx hb dX10_readAny_175 rfl (lv_at hl6414 0 rfl) ?_
        refine lv_bipush (v := 10) hx hb dX10_readAny_176 (by decide) ?_
        have cc_x6422 := i_cl (x := x6422) (by omega)
        have cc_x6420 := i_cl (x := x6420) (by omega)
        have pqc : PQ (fun j => fI H6412 pq j) (x6422.toNatClampNeg) (x6421.toInt) (x6402.toInt) (B) (x6403.toInt) := PQ.cast by6423_pq (by omega) (by omega) rfl rfl rfl
        have hcb := pqc.2.2.2.1
        have hco := pqc.2.1
        have hck := pqc.2.2.1
        refine x_V (As := [.int 10]) (rest := []) C (a_X10_settles l K G H6412 (10) (mn) (x6422) (x6420) (x6421) hTH6412 ga0 (by decide) goq cy6423_0 gaq cy6423_1 gpq cy6423_2 ex6422 ex6420 ex6421 gy6423_CG gy6423_TU gy6423_WD gy6423_IM (WF.castE by6423_wf (by omega) (by omega) (by omega)) (by and_intros <;> first | assumption | omega) (by and_intros <;> first | assumption | omega) (pqc.1) (pqc.2.1)) yo_X10_settles wM_X10_273 ⟨⟨by decide, by decide⟩, by decide, by decide⟩ (x_rv C hTH6412 (ci := 10) rfl ga0 rg_112) rfl hl6414.1 rfl (Nat.le_of_ble_eq_true rfl) dX10_readAny_178 hSH6412 (AE_sub (fun _ _ => rfl) (by decide) hSH6412.1) (fun vH6424 H6424 locsH6424 pH6424 zH6424 kH6424 hSH6424 => ?_)
        obtain ⟨x6425, x6426, x6427, hvH6424, ex6425, ex6426, ex6427, hrH6424, m6428, m6429, m6430, g6431, g6432, g6433, g6434, mf6435, m6436, m6437, m6438, m6439, m6440, m6441, hTH6424⟩ := pH6424
        subst hvH6424
        clear zH6424
        replace m6428 := EQN.mk m6428
        replace m6429 := EQN.mk m6429
        replace m6430 := EQN.mk m6430
        have b6442 : PQ (fun j => fI H6424 pq j) (x6422.toNatClampNeg) (x6421.toInt) (x6402.toInt) (B) (x6403.toInt) := PQ.congr (fun j => fI_kept (x_lt hTH6412 kH6424 gpq (by decide))) pqc
        have m6443 := (ex6416).trans (MF.i mf6435 (k := 19) (by decide) (by decide)).symm
        have m6444 := (ex6417).trans (MF.i mf6435 (k := 20) (by decide) (by decide)).symm
        have m6445 := (ex6418).trans (MF.i mf6435 (k := 21) (by decide) (by decide)).symm
        have m6446 := (ex6419).trans (MF.i mf6435 (k := 22) (by decide) (by decide)).symm
        have m6447 := (cy6423_0).trans (MF.r mf6435 (k := 32) (by decide) (by decide)).symm
        have m6448 := (cy6423_1).trans (MF.r mf6435 (k := 33) (by decide) (by decide)).symm
        have m6449 := (cy6423_2).trans (MF.r mf6435 (k := 37) (by decide) (by decide)).symm
        have m6450 := (cy6423_3).trans (MF.i mf6435 (k := 18) (by decide) (by decide)).symm
        have m6451 := (cy6423_4).trans (MF.i mf6435 (k := 34) (by decide) (by decide)).symm
        have mf6452 : MF K s.heap H6424 a0 [19, 20, 21, 22, 35, 36, 38, 39, 40] := MF.trans mfy6423 mf6435 (by decide)
        have bx6425 := ty_fi (x := x6425) (k := 38) ex6425 hTH6424 ga0 rg_112 rfl
        have bx6426 := ty_fi (x := x6426) (k := 35) ex6426 hTH6424 ga0 rg_112 rfl
        have bx6427 := ty_fi (x := x6427) (k := 36) ex6427 hTH6424 ga0 rg_112 rfl
        obtain ⟨raH6424, rbH6424, rcH6424⟩ := hrH6424
        replace rcH6424 := rcH6424.resolve_left (fun h => absurd (n_10.symm.trans h.1) (by decide))
        replace m6439 := HD.mk m6439
        replace m6441 := HD.mk m6441
        have cs_mn := i_cl (x := mn) (by omega)
        have b6453 : ∀ j : Nat, j < 3000 + mn.toNatClampNeg → fI H6424 oq j = fI s.heap oq j ∧ fI H6424 aq j = fI s.heap aq j := fun j hj => ⟨(m6436 j (by omega)).1.trans (by6423_pf j hj).1, (m6436 j (by omega)).2.trans (by6423_pf j hj).2⟩
        have b6454 : WF (fun k => fI H6424 oq k) (fun k => fI H6424 aq k) (3000 + mn.toNatClampNeg) (3000 + x6420.toNatClampNeg) 0 (B + 1 - x6403.toNatClampNeg) := WF.keep by6423_wf (fun j hj => (m6436 j (by omega)).1) (fun j hj => (m6436 j (by omega)).2)
        refine W.eq (g2 := F0 m 181 ls6413 []) rfl ?_
        have cc_x6425 := i_cl (x := x6425) (by omega)
        have cc_x6426 := i_cl (x := x6426) (by omega)
        have eqp : ∀ j : Nat, fI H6424 pq j = fI H6412 pq j := fun j => fI_kept (x_lt hTH6412 kH6424 gpq (by decide))
        have pq0 : PQ (fun j => fI H6412 pq j) (x6425.toNatClampNeg) (x6427.toInt) (x6402.toInt) (cB (fun j => fI H6412 pq j) x6425.toNatClampNeg) 0 := PQ.settle (w := 10) pqc (by omega) m6437 m6438 (by decide) ((m6439.out).imp (fun h => by omega) (fun h => by show (fI _ pq _).toInt ≠ 10; rw [n_10] at h; exact h)) ((m6441.out).imp (fun h => by omega) (fun h => by show (fI _ pq _).toInt = 10; rw [n_10] at h; exact h)) (Or.inr (by omega))
        have pqn : PQ (fun j => fI H6424 pq j) (x6425.toNatClampNeg) (x6427.toInt) (x6402.toInt) (cB (fun j => fI H6412 pq j) x6425.toNatClampNeg) (0) := PQ.congr eqp pq0
        have t10 : HD (x6425.toNatClampNeg = 0 ∨ (fI H6424 pq (x6425.toNatClampNeg - 1)).toInt = 11 ∨ (fI H6424 pq (x6425.toNatClampNeg - 1)).toInt = 12) := PQ.top10 pqn ((m6439.out).imp (fun h => by omega) (fun h => by show (fI _ pq _).toInt ≠ 10; rw [eqp]; rw [n_10] at h; exact h))
        have pq10 := pqn
        refine lv_aload_n hx hb dX10_readAny_181 rfl (lv_at hl6414 0 rfl) ?_
        refine lv_bipush (v := 11) hx hb dX10_readAny_182 (by decide) ?_
        have pqc : PQ (fun j => fI H6424 pq j) (x6425.toNatClampNeg) (x6427.toInt) (x6402.toInt) (cB (fun j => fI H6412 pq j) x6425.toNatClampNeg) (0) := PQ.cast pqn (by omega) (by omega) rfl rfl rfl
        have hcb := pqc.2.2.2.1
        have hco := pqc.2.1
        have hck := pqc.2.2.1
        refine x_V (As := [.int 11]) (rest := []) C (a_X10_settles l K G H6424 (11) (mn) (x6425) (x6426) (x6427) hTH6424 ga0 (by decide) goq m6428 gaq m6429 gpq m6430 ex6425 ex6426 ex6427 g6431 g6432 g6433 g6434 (WF.castE m6440 (by omega) (by omega) (by omega)) (by and_intros <;> first | assumption | omega) (by and_intros <;> first | assumption | omega) (pqc.1) (pqc.2.1)) yo_X10_settles wM_X10_273 ⟨⟨by decide, by decide⟩, by decide, by decide⟩ (x_rv C hTH6424 (ci := 10) rfl ga0 rg_112) rfl hl6414.1 rfl (Nat.le_of_ble_eq_true rfl) dX10_readAny_184 hSH6424 (AE_sub (fun _ _ => rfl) (by decide) hSH6424.1) (fun vH6455 H6455 locsH6455 pH6455 zH6455 kH6455 hSH6455 => ?_)
        obtain ⟨x6456, x6457, x6458, hvH6455, ex6456, ex6457, ex6458, hrH6455, m6459, m6460, m6461, g6462, g6463, g6464, g6465, mf6466, m6467, m6468, m6469, m6470, m6471, m6472, hTH6455⟩ := pH6455
        subst hvH6455
        clear zH6455
        replace m6459 := EQN.mk m6459
        replace m6460 := EQN.mk m6460
        replace m6461 := EQN.mk m6461
        have b6473 : PQ (fun j => fI H6455 pq j) (x6425.toNatClampNeg) (x6427.toInt) (x6402.toInt) (cB (fun j => fI H6412 pq j) x6425.toNatClampNeg) (0) := PQ.congr (fun j => fI_kept (x_lt hTH6424 kH6455 gpq (by decide))) pqc
        have m6474 := (m6443).trans (MF.i mf6466 (k := 19) (by decide) (by decide)).symm
        have m6475 := (m6444).trans (MF.i mf6466 (k := 20) (by decide) (by decide)).symm
        have m6476 := (m6445).trans (MF.i mf6466 (k := 21) (by decide) (by decide)).symm
        have m6477 := (m6446).trans (MF.i mf6466 (k := 22) (by decide) (by decide)).symm
        have m6478 := (m6428).trans (MF.r mf6466 (k := 32) (by decide) (by decide)).symm
        have m6479 := (m6429).trans (MF.r mf6466 (k := 33) (by decide) (by decide)).symm
        have m6480 := (m6430).trans (MF.r mf6466 (k := 37) (by decide) (by decide)).symm
        have m6481 := (m6450).trans (MF.i mf6466 (k := 18) (by decide) (by decide)).symm
        have m6482 := (m6451).trans (MF.i mf6466 (k := 34) (by decide) (by decide)).symm
        have mf6483 : MF K s.heap H6455 a0 [19, 20, 21, 22, 35, 36, 38, 39, 40] := MF.trans mf6452 mf6466 (by decide)
        have bx6456 := ty_fi (x := x6456) (k := 38) ex6456 hTH6455 ga0 rg_112 rfl
        have bx6457 := ty_fi (x := x6457) (k := 35) ex6457 hTH6455 ga0 rg_112 rfl
        have bx6458 := ty_fi (x := x6458) (k := 36) ex6458 hTH6455 ga0 rg_112 rfl
        obtain ⟨raH6455, rbH6455, rcH6455⟩ := hrH6455
        replace rcH6455 := rcH6455.resolve_left (fun h => absurd (n_11.symm.trans h.1) (by decide))
        replace m6470 := HD.mk m6470
        replace m6472 := HD.mk m6472
        have b6484 : ∀ j : Nat, j < 3000 + mn.toNatClampNeg → fI H6455 oq j = fI s.heap oq j ∧ fI H6455 aq j = fI s.heap aq j := fun j hj => ⟨(m6467 j (by omega)).1.trans (b6453 j hj).1, (m6467 j (by omega)).2.trans (b6453 j hj).2⟩
        have b6485 : WF (fun k => fI H6455 oq k) (fun k => fI H6455 aq k) (3000 + mn.toNatClampNeg) (3000 + x6426.toNatClampNeg) 0 (cB (fun j => fI H6412 pq j) x6425.toNatClampNeg + 1) := WF.keep m6440 (fun j hj => (m6467 j (by omega)).1) (fun j hj => (m6467 j (by omega)).2)
        refine W.eq (g2 := F0 m 187 ls6413 []) rfl ?_
        have cc_x6456 := i_cl (x := x6456) (by omega)
        have cc_x6457 := i_cl (x := x6457) (by omega)
        have eqp : ∀ j : Nat, fI H6455 pq j = fI H6424 pq j := fun j => fI_kept (x_lt hTH6424 kH6455 gpq (by decide))
        have pq0 : PQ (fun j => fI H6424 pq j) (x6456.toNatClampNeg) (x6458.toInt) (x6402.toInt) (cB (fun j => fI H6424 pq j) x6456.toNatClampNeg) 0 := PQ.settle (w := 11) pqc (by omega) m6468 m6469 (by decide) ((m6470.out).imp (fun h => by omega) (fun h => by show (fI _ pq _).toInt ≠ 11; rw [n_11] at h; exact h)) ((m6472.out).imp (fun h => by omega) (fun h => by show (fI _ pq _).toInt = 11; rw [n_11] at h; exact h)) (Or.inr (by omega))
        have pqn : PQ (fun j => fI H6455 pq j) (x6456.toNatClampNeg) (x6458.toInt) (x6402.toInt) (cB (fun j => fI H6424 pq j) x6456.toNatClampNeg) (0) := PQ.congr eqp pq0
        have t11 : HD (x6456.toNatClampNeg = 0 ∨ (fI H6455 pq (x6456.toNatClampNeg - 1)).toInt = 12) := PQ.top11 (PQ.congr eqp pq10) (by show _ ∨ (fI _ pq _).toInt = 11 ∨ (fI _ pq _).toInt = 12; rw [eqp]; exact t10) (by omega) ((m6472.out).imp (fun h => by omega) (fun h => by show (fI _ pq _).toInt = 11; rw [eqp]; rw [n_11] at h; exact h)) ((m6470.out).imp (fun h => by omega) (fun h => by show (fI _ pq _).toInt ≠ 11; rw [eqp]; rw [n_11] at h; exact h))
        refine lv_iload_n hx hb dX10_readAny_187 rfl (lv_at hl6414 1 rfl) ?_
        refine lv_if_ne (tgt := 193) hx hb dX10_readAny_188 (by decide) (fun c6486 => ?_) (fun c6486 => ?_)
        · have k6487 := i_ne c6486
          refine lv_aload_n hx hb dX10_readAny_193 rfl (lv_at hl6414 0 rfl) ?_
          refine lv_bipush (v := 41) hx hb dX10_readAny_194 (by decide) ?_
          refine x_V (As := [.int 41]) (rest := []) C (a_X10_isSign l K G H6455 (41) (x6418) (x6419) hTH6455 ga0 m6476 m6477) yo_X10_isSign wM_X10_249 ⟨⟨by decide, by decide⟩, by decide, by decide⟩ (x_rv C hTH6455 (ci := 10) rfl ga0 rg_112) rfl hl6414.1 rfl (Nat.le_of_ble_eq_true rfl) dX10_readAny_196 hSH6455 (AE_sub (fun _ _ => rfl) (by decide) hSH6455.1) (fun vH6488 H6488 locsH6488 pH6488 zH6488 kH6488 hSH6488 => ?_)
          obtain ⟨x6489, hvH6488, bx6489, hrH6488, hTH6488⟩ := pH6488
          subst hvH6488
          clear zH6488
          have mf6490 : MF K s.heap H6488 a0 [19, 20, 21, 22, 35, 36, 38, 39, 40] := MF.eff (x_lt hTH6455 kH6488 ga0 (by decide)) mf6483
          have b6491 : PQ (fun j => fI H6488 pq j) (x6456.toNatClampNeg) (x6458.toInt) (x6402.toInt) (cB (fun j => fI H6424 pq j) x6456.toNatClampNeg) (0) := PQ.congr (fun j => fI_kept (x_lt hTH6455 kH6488 gpq (by decide))) pqn
          have b6492 : ∀ j : Nat, j < 3000 + mn.toNatClampNeg → fI H6488 oq j = fI s.heap oq j ∧ fI H6488 aq j = fI s.heap aq j := fun j hj => ⟨(fI_kept (x_lt hTH6455 kH6488 goq (by decide))).trans (b6484 j hj).1, (fI_kept (x_lt hTH6455 kH6488 gaq (by decide))).trans (b6484 j hj).2⟩
          have b6493 : WF (fun k => fI H6488 oq k) (fun k => fI H6488 aq k) (3000 + mn.toNatClampNeg) (3000 + x6457.toNatClampNeg) 0 (cB (fun j => fI H6424 pq j) x6456.toNatClampNeg + 1) := WF.congr (fun j => fI_kept (x_lt hTH6455 kH6488 goq (by decide))) (fun j => fI_kept (x_lt hTH6455 kH6488 gaq (by decide))) m6471
          have g6494 : CG (avw K H6488 a0) := CG.congr (fun k hk j => av_eff hTH6455 kH6488 ga0 (by decide) (CG_eff [] (by decide) k hk)) g6462
          have g6495 : TU (avw K H6488 a0) (svw K H6488 a0) := TU.congr (fun k hk j => av_eff hTH6455 kH6488 ga0 (by decide) (TU_eff [] (by decide) k hk)) (fun k hk => sv_eff hTH6455 kH6488 ga0 (by decide)) g6463
          have g6496 : WD (avw K H6488 a0) := WD.congr (fun k hk j => av_eff hTH6455 kH6488 ga0 (by decide) (WD_eff [] (by decide) k hk)) g6464
          have g6497 : IM (avw K H6488 a0) := IM.congr (fun k hk j => av_eff hTH6455 kH6488 ga0 (by decide) (IM_eff [] (by decide) k hk)) g6465
          have m6498 := (m6474).trans (fI_kept (x_lt hTH6455 kH6488 ga0 (by decide))).symm
          have m6499 := (m6475).trans (fI_kept (x_lt hTH6455 kH6488 ga0 (by decide))).symm
          have m6500 := (m6476).trans (fI_kept (x_lt hTH6455 kH6488 ga0 (by decide))).symm
          have m6501 := (m6477).trans (fI_kept (x_lt hTH6455 kH6488 ga0 (by decide))).symm
          have m6502 := (m6459).trans (fR_kept (x_lt hTH6455 kH6488 ga0 (by decide))).symm
          have m6503 := (m6460).trans (fR_kept (x_lt hTH6455 kH6488 ga0 (by decide))).symm
          have m6504 := (m6461).trans (fR_kept (x_lt hTH6455 kH6488 ga0 (by decide))).symm
          have m6505 := (m6481).trans (fI_kept (x_lt hTH6455 kH6488 ga0 (by decide))).symm
          have m6506 := (m6482).trans (fI_kept (x_lt hTH6455 kH6488 ga0 (by decide))).symm
          have m6507 := (ex6456).trans (fI_kept (x_lt hTH6455 kH6488 ga0 (by decide))).symm
          have m6508 := (ex6457).trans (fI_kept (x_lt hTH6455 kH6488 ga0 (by decide))).symm
          have m6509 := (ex6458).trans (fI_kept (x_lt hTH6455 kH6488 ga0 (by decide))).symm
          refine W.eq (g2 := F0 m 199 ls6413 [.int x6489]) rfl ?_
          refine lv_if_ne (tgt := 208) hx hb dX10_readAny_199 (by decide) (fun c6510 => ?_) (fun c6510 => ?_)
          · have k6511 := i_ne c6510
            replace hrH6488 := hrH6488.resolve_left (fun h => absurd h.1 (by omega))
            replace i3 := i3.resolve_left (by omega)
            clear i4
            have hk0 : x6456.toNatClampNeg ≠ 0 := fun e => by have h := b6491.2.2.1; rw [e] at h; change ((0 : Nat) : Int) = _ at h; omega
            have e11 : ∀ j : Nat, fI H6488 pq j = fI H6455 pq j := fun j => fI_kept (x_lt hTH6455 kH6488 gpq (by decide))
            have t12 : (fI H6488 pq (x6456.toNatClampNeg - 1)).toInt = 12 := by rw [e11]; exact t11.out.resolve_left hk0
            have hs12 := (c_step (f := fun j => fI H6488 pq j) (n := x6456.toNatClampNeg - 1) (m := x6456.toNatClampNeg) (by omega)).2.2 t12
            have hc12 := b6491.2.1
            refine lv_aload_n hx hb dX10_readAny_208 rfl (lv_at hl6414 0 rfl) ?_
            refine lv_aload_n hx hb dX10_readAny_209 rfl (lv_at hl6414 0 rfl) ?_
            refine x_gi C hTH6488 (ci := 10) (k := 38) rfl inX10 (by decide) wF_X10_258 ga0 rg_112 rfl dX10_readAny_210 (fun x6512 ex6512 bx6512 => ?_)
            have ux6512 : x6456 = x6512 := (m6507).trans ex6512.symm
            subst ux6512
            refine lv_iconst (v := 1) hx hb dX10_readAny_213 (by decide) ?_
            refine lv_isub hx hb dX10_readAny_214 ?_
            refine lv_topi (fun x6513 ex6513 => ?_)
            have tx6513 := i_sub ex6513 (by omega)
            have fz6515 : 0 ≤ x6513.toInt ∧ x6513.toInt ≤ 40 := by have := i_rng x6513; omega
            refine x_put C hTH6488 hSH6488 (ci := 10) (k := 38) (v := .int x6513) (ty0 := tyX10) rfl inX10 tyX10_ok nmX10 (by decide) rfl wF_X10_258 ga0 rg_112 rfl rfl (okI (by have := i_rng x6513; omega) (by have := i_rng x6513; omega)) rfl rfl (AE_in ga0 (by decide)) dX10_readAny_215 (fun H6514 locsH6514 hTH6514 hSH6514 wH6514 => ?_)
            have ep6516 : ∀ j : Nat, fI H6514 pq j = fI H6488 pq j := fun j => (Wr.neI wH6514 (Or.inl (G_ne gpq ga0 (by decide))))
            have mf6517 : MF K s.heap H6514 a0 [19, 20, 21, 22, 35, 36, 38, 39, 40] := MF.fld hap wH6514 (by decide) (by decide) mf6490
            have g6518 : CG (avw K H6514 a0) := CG.congr (fun k hk j => av_fld hTH6488 ga0 hap wH6514 (by decide) (CG_ok 112 (by decide) k hk) (CG_ne 38 (by decide) k hk)) g6494
            have g6519 : TU (avw K H6514 a0) (svw K H6514 a0) := TU.congr (fun k hk j => av_fld hTH6488 ga0 hap wH6514 (by decide) (TU_ok 112 (by decide) k hk) (TU_ne 38 (by decide) k hk)) (fun k hk => sv_fld hap wH6514 (by decide) (TU_slt k hk) (TU_sne 38 (by decide) k hk)) g6495
            have g6520 : WD (avw K H6514 a0) := WD.congr (fun k hk j => av_fld hTH6488 ga0 hap wH6514 (by decide) (WD_ok 112 (by decide) k hk) (WD_ne 38 (by decide) k hk)) g6496
            have g6521 : IM (avw K H6514 a0) := IM.congr (fun k hk j => av_fld hTH6488 ga0 hap wH6514 (by decide) (IM_ok 112 (by decide) k hk) (IM_ne 38 (by decide) k hk)) g6497
            have b6522 : PQ (fun j => fI H6514 pq j) (x6456.toNatClampNeg) (x6458.toInt) (x6402.toInt) (cB (fun j => fI H6424 pq j) x6456.toNatClampNeg) (0) := PQ.congr (fun j => Wr.neI wH6514 (Or.inl (G_ne gpq ga0 (by decide)))) b6491
            have b6523 : ∀ j : Nat, j < 3000 + mn.toNatClampNeg → fI H6514 oq j = fI s.heap oq j ∧ fI H6514 aq j = fI s.heap aq j := fun j hj => ⟨(Wr.neI wH6514 (Or.inl (G_ne goq ga0 (by decide)))).trans (b6492 j hj).1, (Wr.neI wH6514 (Or.inl (G_ne gaq ga0 (by decide)))).trans (b6492 j hj).2⟩
            have b6524 : WF (fun k => fI H6514 oq k) (fun k => fI H6514 aq k) (3000 + mn.toNatClampNeg) (3000 + x6457.toNatClampNeg) 0 (cB (fun j => fI H6424 pq j) x6456.toNatClampNeg + 1) := WF.congr (fun j => Wr.neI wH6514 (Or.inl (G_ne goq ga0 (by decide)))) (fun j => Wr.neI wH6514 (Or.inl (G_ne gaq ga0 (by decide)))) b6493
            have m6525 := m6498.trans (Wr.neI wH6514 (Or.inr (x_apart hKT hts inX10 tyX10 tyX10_ok nmX10 rfl 19 38 (by decide) (by decide) (by decide)))).symm
            have m6526 := m6499.trans (Wr.neI wH6514 (Or.inr (x_apart hKT hts inX10 tyX10 tyX10_ok nmX10 rfl 20 38 (by decide) (by decide) (by decide)))).symm
            have m6527 := m6500.trans (Wr.neI wH6514 (Or.inr (x_apart hKT hts inX10 tyX10 tyX10_ok nmX10 rfl 21 38 (by decide) (by decide) (by decide)))).symm
            have m6528 := m6501.trans (Wr.neI wH6514 (Or.inr (x_apart hKT hts inX10 tyX10 tyX10_ok nmX10 rfl 22 38 (by decide) (by decide) (by decide)))).symm
            have m6529 := m6502.trans (Wr.neR wH6514 (Or.inr (x_apart hKT hts inX10 tyX10 tyX10_ok nmX10 rfl 32 38 (by decide) (by decide) (by decide)))).symm
            have m6530 := m6503.trans (Wr.neR wH6514 (Or.inr (x_apart hKT hts inX10 tyX10 tyX10_ok nmX10 rfl 33 38 (by decide) (by decide) (by decide)))).symm
            have m6531 := m6504.trans (Wr.neR wH6514 (Or.inr (x_apart hKT hts inX10 tyX10 tyX10_ok nmX10 rfl 37 38 (by decide) (by decide) (by decide)))).symm
            have m6532 := m6505.trans (Wr.neI wH6514 (Or.inr (x_apart hKT hts inX10 tyX10 tyX10_ok nmX10 rfl 18 38 (by decide) (by decide) (by decide)))).symm
            have m6533 := m6506.trans (Wr.neI wH6514 (Or.inr (x_apart hKT hts inX10 tyX10 tyX10_ok nmX10 rfl 34 38 (by decide) (by decide) (by decide)))).symm
            have m6535 := m6508.trans (Wr.neI wH6514 (Or.inr (x_apart hKT hts inX10 tyX10 tyX10_ok nmX10 rfl 35 38 (by decide) (by decide) (by decide)))).symm
            have m6536 := m6509.trans (Wr.neI wH6514 (Or.inr (x_apart hKT hts inX10 tyX10 tyX10_ok nmX10 rfl 36 38 (by decide) (by decide) (by decide)))).symm
            have m6537 := Wr.I wH6514
            have m6537 := m6537.symm
            refine lv_iload_n hx hb dX10_readAny_218 rfl (lv_at hl6414 1 rfl) ?_
            refine lv_iconst (v := 1) hx hb dX10_readAny_219 (by decide) ?_
            refine lv_isub hx hb dX10_readAny_220 ?_
            refine lv_topi (fun x6538 ex6538 => ?_)
            have tx6538 := i_sub ex6538 (by omega)
            refine lv_istore_n (lv' := [(1, .int x6538), (0, .ref a0), (2, .int x6403)]) hx hb dX10_readAny_221 rfl hl6414 (by decide) rfl (fun ls6539 hl6540 => ?_)
            refine lv_aload_n hx hb dX10_readAny_222 rfl (lv_at hl6540 1 rfl) ?_
            refine lv_aload_n hx hb dX10_readAny_223 rfl (lv_at hl6540 1 rfl) ?_
            refine x_gi C hTH6514 (ci := 10) (k := 36) rfl inX10 (by decide) wF_X10_261 ga0 rg_112 rfl dX10_readAny_224 (fun x6541 ex6541 bx6541 => ?_)
            have ux6541 : x6458 = x6541 := (m6536).trans ex6541.symm
            subst ux6541
            refine lv_iconst (v := 1) hx hb dX10_readAny_227 (by decide) ?_
            refine lv_isub hx hb dX10_readAny_228 ?_
            refine lv_topi (fun x6542 ex6542 => ?_)
            have tx6542 := i_sub ex6542 (by omega)
            have fz6544 : 0 ≤ x6542.toInt ∧ x6542.toInt ≤ 8 := by have := i_rng x6542; omega
            refine x_put C hTH6514 hSH6514 (ci := 10) (k := 36) (v := .int x6542) (ty0 := tyX10) rfl inX10 tyX10_ok nmX10 (by decide) rfl wF_X10_261 ga0 rg_112 rfl rfl (okI (by have := i_rng x6542; omega) (by have := i_rng x6542; omega)) rfl rfl (AE_in ga0 (by decide)) dX10_readAny_229 (fun H6543 locsH6543 hTH6543 hSH6543 wH6543 => ?_)
            have ep6545 : ∀ j : Nat, fI H6543 pq j = fI H6488 pq j := fun j => (Wr.neI wH6543 (Or.inl (G_ne gpq ga0 (by decide)))).trans (ep6516 j)
            have mf6546 : MF K s.heap H6543 a0 [19, 20, 21, 22, 35, 36, 38, 39, 40] := MF.fld hap wH6543 (by decide) (by decide) mf6517
            have g6547 : CG (avw K H6543 a0) := CG.congr (fun k hk j => av_fld hTH6514 ga0 hap wH6543 (by decide) (CG_ok 112 (by decide) k hk) (CG_ne 36 (by decide) k hk)) g6518
            have g6548 : TU (avw K H6543 a0) (svw K H6543 a0) := TU.congr (fun k hk j => av_fld hTH6514 ga0 hap wH6543 (by decide) (TU_ok 112 (by decide) k hk) (TU_ne 36 (by decide) k hk)) (fun k hk => sv_fld hap wH6543 (by decide) (TU_slt k hk) (TU_sne 36 (by decide) k hk)) g6519
            have g6549 : WD (avw K H6543 a0) := WD.congr (fun k hk j => av_fld hTH6514 ga0 hap wH6543 (by decide) (WD_ok 112 (by decide) k hk) (WD_ne 36 (by decide) k hk)) g6520
            have g6550 : IM (avw K H6543 a0) := IM.congr (fun k hk j => av_fld hTH6514 ga0 hap wH6543 (by decide) (IM_ok 112 (by decide) k hk) (IM_ne 36 (by decide) k hk)) g6521
            have b6551 : PQ (fun j => fI H6543 pq j) (x6456.toNatClampNeg) (x6458.toInt) (x6402.toInt) (cB (fun j => fI H6424 pq j) x6456.toNatClampNeg) (0) := PQ.congr (fun j => Wr.neI wH6543 (Or.inl (G_ne gpq ga0 (by decide)))) b6522
            have b6552 : ∀ j : Nat, j < 3000 + mn.toNatClampNeg → fI H6543 oq j = fI s.heap oq j ∧ fI H6543 aq j = fI s.heap aq j := fun j hj => ⟨(Wr.neI wH6543 (Or.inl (G_ne goq ga0 (by decide)))).trans (b6523 j hj).1, (Wr.neI wH6543 (Or.inl (G_ne gaq ga0 (by decide)))).trans (b6523 j hj).2⟩
            have b6553 : WF (fun k => fI H6543 oq k) (fun k => fI H6543 aq k) (3000 + mn.toNatClampNeg) (3000 + x6457.toNatClampNeg) 0 (cB (fun j => fI H6424 pq j) x6456.toNatClampNeg + 1) := WF.congr (fun j => Wr.neI wH6543 (Or.inl (G_ne goq ga0 (by decide)))) (fun j => Wr.neI wH6543 (Or.inl (G_ne gaq ga0 (by decide)))) b6524
            have m6554 := m6525.trans (Wr.neI wH6543 (Or.inr (x_apart hKT hts inX10 tyX10 tyX10_ok nmX10 rfl 19 36 (by decide) (by decide) (by decide)))).symm
            have m6555 := m6526.trans (Wr.neI wH6543 (Or.inr (x_apart hKT hts inX10 tyX10 tyX10_ok nmX10 rfl 20 36 (by decide) (by decide) (by decide)))).symm
            have m6556 := m6527.trans (Wr.neI wH6543 (Or.inr (x_apart hKT hts inX10 tyX10 tyX10_ok nmX10 rfl 21 36 (by decide) (by decide) (by decide)))).symm
            have m6557 := m6528.trans (Wr.neI wH6543 (Or.inr (x_apart hKT hts inX10 tyX10 tyX10_ok nmX10 rfl 22 36 (by decide) (by decide) (by decide)))).symm
            have m6558 := m6529.trans (Wr.neR wH6543 (Or.inr (x_apart hKT hts inX10 tyX10 tyX10_ok nmX10 rfl 32 36 (by decide) (by decide) (by decide)))).symm
            have m6559 := m6530.trans (Wr.neR wH6543 (Or.inr (x_apart hKT hts inX10 tyX10 tyX10_ok nmX10 rfl 33 36 (by decide) (by decide) (by decide)))).symm
            have m6560 := m6531.trans (Wr.neR wH6543 (Or.inr (x_apart hKT hts inX10 tyX10 tyX10_ok nmX10 rfl 37 36 (by decide) (by decide) (by decide)))).symm
            have m6561 := m6532.trans (Wr.neI wH6543 (Or.inr (x_apart hKT hts inX10 tyX10 tyX10_ok nmX10 rfl 18 36 (by decide) (by decide) (by decide)))).symm
            have m6562 := m6533.trans (Wr.neI wH6543 (Or.inr (x_apart hKT hts inX10 tyX10 tyX10_ok nmX10 rfl 34 36 (by decide) (by decide) (by decide)))).symm
            have m6563 := m6535.trans (Wr.neI wH6543 (Or.inr (x_apart hKT hts inX10 tyX10 tyX10_ok nmX10 rfl 35 36 (by decide) (by decide) (by decide)))).symm
            have m6565 := m6537.trans (Wr.neI wH6543 (Or.inr (x_apart hKT hts inX10 tyX10 tyX10_ok nmX10 rfl 38 36 (by decide) (by decide) (by decide)))).symm
            have m6566 := Wr.I wH6543
            have m6566 := m6566.symm
            have cc_x6513 := i_cl (x := x6513) (by omega)
            have pqp : PQ (fun j => fI H6543 pq j) (x6513.toNatClampNeg) (x6542.toInt) (x6538.toInt) (cB (fun j => fI H6424 pq j) x6456.toNatClampNeg) (1) := PQ.pop12 b6551 (by show (fI _ pq _).toInt = 12; rw [show x6513.toNatClampNeg = x6456.toNatClampNeg - 1 by omega, ep6545]; exact t12) (by omega) (by omega) (by omega)
            refine lv_aload_n hx hb dX10_readAny_232 rfl (lv_at hl6540 1 rfl) ?_
            refine lv_bipush (v := 9) hx hb dX10_readAny_233 (by decide) ?_
            have pqc : PQ (fun j => fI H6543 pq j) (x6513.toNatClampNeg) (x6542.toInt) (x6538.toInt) (cB (fun j => fI H6424 pq j) x6456.toNatClampNeg) (1) := PQ.cast pqp (by omega) (by omega) rfl rfl rfl
            have hcb := pqc.2.2.2.1
            have hco := pqc.2.1
            have hck := pqc.2.2.1
            refine x_V (As := [.int 9]) (rest := []) C (a_X10_settles l K G H6543 (9) (mn) (x6513) (x6457) (x6542) hTH6543 ga0 (by decide) goq m6558 gaq m6559 gpq m6560 m6565 m6563 m6566 g6547 g6548 g6549 g6550 (WF.castE b6553 (by omega) (by omega) (by omega)) (by and_intros <;> first | assumption | omega) (by and_intros <;> first | assumption | omega) (pqc.1) (pqc.2.1)) yo_X10_settles wM_X10_273 ⟨⟨by decide, by decide⟩, by decide, by decide⟩ (x_rv C hTH6543 (ci := 10) rfl ga0 rg_112) rfl hl6540.1 rfl (Nat.le_of_ble_eq_true rfl) dX10_readAny_235 hSH6543 (AE_sub (fun _ _ => rfl) (by decide) hSH6543.1) (fun vH6567 H6567 locsH6567 pH6567 zH6567 kH6567 hSH6567 => ?_)
            obtain ⟨x6568, x6569, x6570, hvH6567, ex6568, ex6569, ex6570, hrH6567, m6571, m6572, m6573, g6574, g6575, g6576, g6577, mf6578, m6579, m6580, m6581, m6582, m6583, m6584, hTH6567⟩ := pH6567
            subst hvH6567
            clear zH6567
            replace m6571 := EQN.mk m6571
            replace m6572 := EQN.mk m6572
            replace m6573 := EQN.mk m6573
            have b6585 : PQ (fun j => fI H6567 pq j) (x6513.toNatClampNeg) (x6542.toInt) (x6538.toInt) (cB (fun j => fI H6424 pq j) x6456.toNatClampNeg) (1) := PQ.congr (fun j => fI_kept (x_lt hTH6543 kH6567 gpq (by decide))) pqc
            have m6586 := (m6554).trans (MF.i mf6578 (k := 19) (by decide) (by decide)).symm
            have m6587 := (m6555).trans (MF.i mf6578 (k := 20) (by decide) (by decide)).symm
            have m6588 := (m6556).trans (MF.i mf6578 (k := 21) (by decide) (by decide)).symm
            have m6589 := (m6557).trans (MF.i mf6578 (k := 22) (by decide) (by decide)).symm
            have m6590 := (m6558).trans (MF.r mf6578 (k := 32) (by decide) (by decide)).symm
            have m6591 := (m6559).trans (MF.r mf6578 (k := 33) (by decide) (by decide)).symm
            have m6592 := (m6560).trans (MF.r mf6578 (k := 37) (by decide) (by decide)).symm
            have m6593 := (m6561).trans (MF.i mf6578 (k := 18) (by decide) (by decide)).symm
            have m6594 := (m6562).trans (MF.i mf6578 (k := 34) (by decide) (by decide)).symm
            have mf6595 : MF K s.heap H6567 a0 [19, 20, 21, 22, 35, 36, 38, 39, 40] := MF.trans mf6546 mf6578 (by decide)
            have bx6568 := ty_fi (x := x6568) (k := 38) ex6568 hTH6567 ga0 rg_112 rfl
            have bx6569 := ty_fi (x := x6569) (k := 35) ex6569 hTH6567 ga0 rg_112 rfl
            have bx6570 := ty_fi (x := x6570) (k := 36) ex6570 hTH6567 ga0 rg_112 rfl
            obtain ⟨raH6567, rbH6567, rcH6567⟩ := hrH6567
            replace rcH6567 := rcH6567.resolve_right (fun h => h.1 n_9)
            replace m6582 := HD.mk m6582
            replace m6584 := HD.mk m6584
            have b6596 : ∀ j : Nat, j < 3000 + mn.toNatClampNeg → fI H6567 oq j = fI s.heap oq j ∧ fI H6567 aq j = fI s.heap aq j := fun j hj => ⟨(m6579 j (by omega)).1.trans (b6552 j hj).1, (m6579 j (by omega)).2.trans (b6552 j hj).2⟩
            have b6597 : WF (fun k => fI H6567 oq k) (fun k => fI H6567 aq k) (3000 + mn.toNatClampNeg) (3000 + x6457.toNatClampNeg) 0 (cB (fun j => fI H6424 pq j) x6456.toNatClampNeg + 1) := WF.keep b6553 (fun j hj => (m6579 j (by omega)).1) (fun j hj => (m6579 j (by omega)).2)
            refine W.eq (g2 := F0 m 238 ls6539 []) rfl ?_
            have cc_x6568 := i_cl (x := x6568) (by omega)
            have cc_x6569 := i_cl (x := x6569) (by omega)
            have eqp : ∀ j : Nat, fI H6567 pq j = fI H6543 pq j := fun j => fI_kept (x_lt hTH6543 kH6567 gpq (by decide))
            have pq0 : PQ (fun j => fI H6543 pq j) (x6568.toNatClampNeg) (x6570.toInt) (x6538.toInt) (cB (fun j => fI H6543 pq j) x6568.toNatClampNeg) 0 := PQ.settle (w := 9) pqc (by omega) m6580 m6581 (by decide) ((m6582.out).imp (fun h => by omega) (fun h => by show (fI _ pq _).toInt ≠ 9; rw [n_9] at h; exact h)) ((m6584.out).imp (fun h => by omega) (fun h => by show (fI _ pq _).toInt = 9; rw [n_9] at h; exact h)) (Or.inl rfl)
            have pqn : PQ (fun j => fI H6567 pq j) (x6568.toNatClampNeg) (x6570.toInt) (x6538.toInt) (cB (fun j => fI H6543 pq j) x6568.toNatClampNeg) (0) := PQ.congr eqp pq0
            refine lv_aload_n hx hb dX10_readAny_238 rfl (lv_at hl6540 1 rfl) ?_
            obtain ⟨q6598, eq6598⟩ : ∃ z : Nat, EQN z (fR H6567 a0 (K.1.2 10 17)) := ⟨_, rfl⟩
            have gq6598 := ty_fr (q := q6598) (k := 17) (u := 126) eq6598 hTH6567 ga0 rg_112 rfl
            replace eq6598 := EQN.mk eq6598
            refine x_V (As := []) (rest := []) C (a_X10_reads l K G H6567 (x6416) (x6417) (x6418) (x6419) (tp) hTH6567 ga0 gq6598 eq6598 m6586 m6587 m6588 m6589 m6593 g6574 g6575 g6576 g6577 (by and_intros <;> first | assumption | omega)) yo_X10_reads wM_X10_242 ⟨⟨by decide, by decide⟩, by decide, by decide⟩ (x_rv C hTH6567 (ci := 10) rfl ga0 rg_112) rfl hl6540.1 rfl (Nat.le_of_ble_eq_true rfl) dX10_readAny_239 hSH6567 (AE_sub (fun _ _ => rfl) (by decide) hSH6567.1) (fun vH6599 H6599 locsH6599 pH6599 zH6599 kH6599 hSH6599 => ?_)
            obtain ⟨x6600, x6601, x6602, x6603, hvH6599, ex6600, ex6601, ex6602, ex6603, hrH6599, m6604, g6605, g6606, g6607, g6608, mf6609, hTH6599⟩ := pH6599
            subst hvH6599
            clear zH6599
            replace m6604 := EQN.mk m6604
            have b6610 : PQ (fun j => fI H6599 pq j) (x6568.toNatClampNeg) (x6570.toInt) (x6538.toInt) (cB (fun j => fI H6543 pq j) x6568.toNatClampNeg) (0) := PQ.congr (fun j => fI_kept (x_lt hTH6567 kH6599 gpq (by decide))) pqn
            have b6611 : ∀ j : Nat, j < 3000 + mn.toNatClampNeg → fI H6599 oq j = fI s.heap oq j ∧ fI H6599 aq j = fI s.heap aq j := fun j hj => ⟨(fI_kept (x_lt hTH6567 kH6599 goq (by decide))).trans (b6596 j hj).1, (fI_kept (x_lt hTH6567 kH6599 gaq (by decide))).trans (b6596 j hj).2⟩
            have b6612 : WF (fun k => fI H6599 oq k) (fun k => fI H6599 aq k) (3000 + mn.toNatClampNeg) (3000 + x6569.toNatClampNeg) 0 (cB (fun j => fI H6543 pq j) x6568.toNatClampNeg + 1) := WF.congr (fun j => fI_kept (x_lt hTH6567 kH6599 goq (by decide))) (fun j => fI_kept (x_lt hTH6567 kH6599 gaq (by decide))) m6583
            have m6613 := (m6571).trans (MF.r mf6609 (k := 32) (by decide) (by decide)).symm
            have m6614 := (m6572).trans (MF.r mf6609 (k := 33) (by decide) (by decide)).symm
            have m6615 := (m6573).trans (MF.r mf6609 (k := 37) (by decide) (by decide)).symm
            have m6616 := (m6593).trans (MF.i mf6609 (k := 18) (by decide) (by decide)).symm
            have m6617 := (m6594).trans (MF.i mf6609 (k := 34) (by decide) (by decide)).symm
            have m6618 := (ex6568).trans (MF.i mf6609 (k := 38) (by decide) (by decide)).symm
            have m6619 := (ex6569).trans (MF.i mf6609 (k := 35) (by decide) (by decide)).symm
            have m6620 := (ex6570).trans (MF.i mf6609 (k := 36) (by decide) (by decide)).symm
            have m6621 := (eq6598).trans (MF.r mf6609 (k := 17) (by decide) (by decide)).symm
            have mf6622 : MF K s.heap H6599 a0 [19, 20, 21, 22, 35, 36, 38, 39, 40] := MF.trans mf6595 mf6609 (by decide)
            have bx6600 := ty_fi (x := x6600) (k := 19) ex6600 hTH6599 ga0 rg_112 rfl
            have bx6601 := ty_fi (x := x6601) (k := 20) ex6601 hTH6599 ga0 rg_112 rfl
            have bx6602 := ty_fi (x := x6602) (k := 21) ex6602 hTH6599 ga0 rg_112 rfl
            have bx6603 := ty_fi (x := x6603) (k := 22) ex6603 hTH6599 ga0 rg_112 rfl
            obtain ⟨r1H6599, r2H6599, r3H6599, r4H6599, r5H6599, r6H6599, r7H6599⟩ := hrH6599
            refine W.eq (g2 := F0 m 242 ls6539 []) rfl ?_
            refine lv_goto (tgt := 9) hx hb dX10_readAny_242 (by decide) ?_
            have hpb := b6610.2.2.2.1
            exact ih9 (cB (fun j => fI H6543 pq j) x6568.toNatClampNeg) ls6539 H6599 locsH6599 (x6538) (x6403) (x6600) (x6601) (x6602) (x6603) (x6569) (x6570) (x6568) (lv_sub hl6540 [1, 0, 2] rfl) hTH6599 hSH6599 ⟨by have := i_rng x6538; omega, by have := i_rng x6538; omega⟩ ⟨by have := i_rng x6403; omega, by have := i_rng x6403; omega⟩ ⟨by have := i_rng x6600; omega, by have := i_rng x6600; omega⟩ ⟨by have := i_rng x6601; omega, by have := i_rng x6601; omega⟩ ⟨by have := i_rng x6569; omega, by have := i_rng x6569; omega⟩ ⟨by have := i_rng x6570; omega, by have := i_rng x6570; omega⟩ ⟨by have := i_rng x6568; omega, by have := i_rng x6568; omega⟩ ex6600 ex6601 ex6602 ex6603 m6619 m6620 m6618 m6613 m6614 m6615 m6616 m6617 b6611 (WF.castE b6612 (by omega) (by omega) (by omega)) (PQ.cast b6610 (by omega) (by omega) (by omega) (by omega) (by omega)) mf6622 g6605 g6606 g6607 g6608 (by omega) (by and_intros <;> first | assumption | omega) 
          · have k6511 := i_eq c6510
            refine lv_aload_n hx hb dX10_readAny_202 rfl (lv_at hl6414 0 rfl) ?_
            refine lv_iconst (v := 1) hx hb dX10_readAny_203 (by decide) ?_
            refine x_V (As := [.int 1]) (rest := []) C (a_X10_fails l K G H6488 (1) hTH6488 ga0 g6494 g6495 g6496 g6497) yo_X10_fails wM_X10_235 ⟨⟨by decide, by decide⟩, by decide, by decide⟩ (x_rv C hTH6488 (ci := 10) rfl ga0 rg_112) rfl hl6414.1 rfl (Nat.le_of_ble_eq_true rfl) dX10_readAny_204 hSH6488 (AE_sub (fun _ _ => rfl) (by decide) hSH6488.1) (fun vH6623 H6623 locsH6623 pH6623 zH6623 kH6623 hSH6623 => ?_)
            obtain ⟨x6624, hvH6623, bx6624, g6625, g6626, g6627, g6628, mf6629, hTH6623⟩ := pH6623
            subst hvH6623
            clear zH6623
            have b6630 : PQ (fun j => fI H6623 pq j) (x6456.toNatClampNeg) (x6458.toInt) (x6402.toInt) (cB (fun j => fI H6424 pq j) x6456.toNatClampNeg) (0) := PQ.congr (fun j => fI_kept (x_lt hTH6488 kH6623 gpq (by decide))) b6491
            have b6631 : ∀ j : Nat, j < 3000 + mn.toNatClampNeg → fI H6623 oq j = fI s.heap oq j ∧ fI H6623 aq j = fI s.heap aq j := fun j hj => ⟨(fI_kept (x_lt hTH6488 kH6623 goq (by decide))).trans (b6492 j hj).1, (fI_kept (x_lt hTH6488 kH6623 gaq (by decide))).trans (b6492 j hj).2⟩
            have b6632 : WF (fun k => fI H6623 oq k) (fun k => fI H6623 aq k) (3000 + mn.toNatClampNeg) (3000 + x6457.toNatClampNeg) 0 (cB (fun j => fI H6424 pq j) x6456.toNatClampNeg + 1) := WF.congr (fun j => fI_kept (x_lt hTH6488 kH6623 goq (by decide))) (fun j => fI_kept (x_lt hTH6488 kH6623 gaq (by decide))) b6493
            have m6633 := (m6498).trans (MF.i mf6629 (k := 19) (by decide) (by decide)).symm
            have m6634 := (m6499).trans (MF.i mf6629 (k := 20) (by decide) (by decide)).symm
            have m6635 := (m6500).trans (MF.i mf6629 (k := 21) (by decide) (by decide)).symm
            have m6636 := (m6501).trans (MF.i mf6629 (k := 22) (by decide) (by decide)).symm
            have m6637 := (m6502).trans (MF.r mf6629 (k := 32) (by decide) (by decide)).symm
            have m6638 := (m6503).trans (MF.r mf6629 (k := 33) (by decide) (by decide)).symm
            have m6639 := (m6504).trans (MF.r mf6629 (k := 37) (by decide) (by decide)).symm
            have m6640 := (m6505).trans (MF.i mf6629 (k := 18) (by decide) (by decide)).symm
            have m6641 := (m6506).trans (MF.i mf6629 (k := 34) (by decide) (by decide)).symm
            have m6642 := (m6507).trans (MF.i mf6629 (k := 38) (by decide) (by decide)).symm
            have m6643 := (m6508).trans (MF.i mf6629 (k := 35) (by decide) (by decide)).symm
            have m6644 := (m6509).trans (MF.i mf6629 (k := 36) (by decide) (by decide)).symm
            have mf6645 : MF K s.heap H6623 a0 [19, 20, 21, 22, 35, 36, 38, 39, 40] := MF.trans mf6490 mf6629 (by decide)
            refine W.eq (g2 := F0 m 207 ls6413 [.int x6624]) rfl ?_
            exact x_iret C hQ dX10_readAny_207 hSH6623 (by decide) (by decide) (⟨x6624, x6416, x6417, x6418, x6419, x6457, x6458, x6456, rfl, by omega, m6633, m6634, m6635, m6636, m6643, m6644, m6642, Or.inl (by omega), m6637, m6638, m6639, g6625, g6626, g6627, g6628, mf6645, b6631, Or.inl (by omega), hTH6623⟩)
        · have k6487 := i_eq c6486
          refine lv_iconst (v := 0) hx hb dX10_readAny_191 (by decide) ?_
          exact x_iret C hQ dX10_readAny_192 hSH6455 (by decide) (by decide) (⟨0, x6416, x6417, x6418, x6419, x6457, x6458, x6456, rfl, by decide, m6474, m6475, m6476, m6477, ex6457, ex6458, ex6456, Or.inr (by and_intros <;> first | assumption | omega), m6459, m6460, m6461, g6462, g6463, g6464, g6465, mf6483, b6484, Or.inr ⟨_, m6471⟩, hTH6455⟩)
      have J139 : ∀ (ls6647 : Array Slot) (H6646 : Heap) (locsH6646 : List Loc) (x6650 : Int32) (x6651 : Int32) (x6652 : Int32) (x6653 : Int32) (x6654 : Int32) (x6655 : Int32) (x6656 : Int32), lv_has ls6647 4 [(0, .ref a0), (1, .int x6402), (2, .int x6403)] → TY K G H6646 → va_S (AE G [112, 136, 137, 138] s.heap.size) s.heap H6646 locsH6646 → (0 ≤ x6403.toInt ∧ x6403.toInt ≤ 0) → (0 ≤ x6650.toInt ∧ x6650.toInt ≤ 500) → (0 ≤ x6651.toInt ∧ x6651.toInt ≤ 500) → (0 ≤ x6654.toInt ∧ x6654.toInt ≤ 500) → (0 ≤ x6655.toInt ∧ x6655.toInt ≤ 8) → (0 ≤ x6656.toInt ∧ x6656.toInt ≤ 40) → (x6650 = fI H6646 a0 (K.1.2 10 19)) → (x6651 = fI H6646 a0 (K.1.2 10 20)) → (x6652 = fI H6646 a0 (K.1.2 10 21)) → (x6653 = fI H6646 a0 (K.1.2 10 22)) → (x6654 = fI H6646 a0 (K.1.2 10 35)) → (x6655 = fI H6646 a0 (K.1.2 10 36)) → (x6656 = fI H6646 a0 (K.1.2 10 38)) → (EQN oq (fR H6646 a0 (K.1.2 10 32))) → (EQN aq (fR H6646 a0 (K.1.2 10 33))) → (EQN pq (fR H6646 a0 (K.1.2 10 37))) → (tp = fI H6646 a0 (K.1.2 10 18)) → (jb = fI H6646 a0 (K.1.2 10 34)) → (∀ j : Nat, j < 3000 + mn.toNatClampNeg → fI H6646 oq j = fI s.heap oq j ∧ fI H6646 aq j = fI s.heap aq j) → (WF (fun k => fI H6646 oq k) (fun k => fI H6646 aq k) (3000 + mn.toNatClampNeg) (3000 + x6654.toNatClampNeg) 0 (B + 1 - x6403.toNatClampNeg)) → (PQ (fun j => fI H6646 pq j) (x6656.toNatClampNeg) (x6655.toInt) (x6402.toInt) (B) (x6403.toInt)) → (MF K s.heap H6646 a0 [19, 20, 21, 22, 35, 36, 38, 39, 40]) → (CG (avw K H6646 a0)) → (TU (avw K H6646 a0) (svw K H6646 a0)) → (WD (avw K H6646 a0)) → (IM (avw K H6646 a0)) → ((x6650.toInt ≤ tp.toInt ∧ x6651.toInt ≤ x6650.toInt ∧ (x6652.toInt = 0 ∨ x6651.toInt < x6650.toInt) ∧ (x6652.toInt ≠ 2 ∨ (0 ≤ x6653.toInt ∧ x6653.toInt ≤ 23))) ∧ x6654.toInt + x6656.toInt + fr.toInt ≤ mn.toInt + x6651.toInt ∧ mn.toInt ≤ x6654.toInt ∧ fr.toInt ≤ x6651.toInt ∧ x6651.toInt = x6405.toInt) → W p l e ({ frames := 7, cells := 0, slots := 0, locals := 149 } : Room) s m (([.ref a0] : List Value).toArray) below meth c H6646 locsH6646 0 0 Q (F0 m 139 ls6647 []) := by
        intro ls6647 H6646 locsH6646 x6650 x6651 x6652 x6653 x6654 x6655 x6656 hl6648 hTH6646 hSH6646 b6649 bx6650 bx6651 bx6654 bx6655 bx6656 ex6650 ex6651 ex6652 ex6653 ex6654 ex6655 ex6656 cy6657_0 cy6657_1 cy6657_2 cy6657_3 cy6657_4 by6657_pf by6657_wf by6657_pq mfy6657 gy6657_CG gy6657_TU gy6657_WD gy6657_IM iv139
        clear i1 i2 i3 i4 i5 i6 i7
        obtain ⟨⟨i1, i2, i3, i4⟩, i5, i6, i7, i8⟩ := iv139
        refine lv_aload_n hx hb dX10_readAny_139 rfl (lv_at hl6648 0 rfl) ?_
        refine lv_bipush (v := 7) hx hb dX10_readAny_140 (by decide) ?_
        refine x_V (As := [.int 7]) (rest := []) C (a_X10_isWord l K G H6646 (7) (x6652) (x6653) hTH6646 ga0 ex6652 ex6653) yo_X10_isWord wM_X10_264 ⟨⟨by decide, by decide⟩, by decide, by decide⟩ (x_rv C hTH6646 (ci := 10) rfl ga0 rg_112) rfl hl6648.1 rfl (Nat.le_of_ble_eq_true rfl) dX10_readAny_142 hSH6646 (AE_sub (fun _ _ => rfl) (by decide) hSH6646.1) (fun vH6658 H6658 locsH6658 pH6658 zH6658 kH6658 hSH6658 => ?_)
        obtain ⟨x6659, hvH6658, bx6659, hrH6658, hTH6658⟩ := pH6658
        subst hvH6658
        clear zH6658
        have mf6660 : MF K s.heap H6658 a0 [19, 20, 21, 22, 35, 36, 38, 39, 40] := MF.eff (x_lt hTH6646 kH6658 ga0 (by decide)) mfy6657
        have b6661 : ∀ j : Nat, j < 3000 + mn.toNatClampNeg → fI H6658 oq j = fI s.heap oq j ∧ fI H6658 aq j = fI s.heap aq j := fun j hj => ⟨(fI_kept (x_lt hTH6646 kH6658 goq (by decide))).trans (by6657_pf j hj).1, (fI_kept (x_lt hTH6646 kH6658 gaq (by decide))).trans (by6657_pf j hj).2⟩
        have b6662 : WF (fun k => fI H6658 oq k) (fun k => fI H6658 aq k) (3000 + mn.toNatClampNeg) (3000 + x6654.toNatClampNeg) 0 (B + 1 - x6403.toNatClampNeg) := WF.congr (fun j => fI_kept (x_lt hTH6646 kH6658 goq (by decide))) (fun j => fI_kept (x_lt hTH6646 kH6658 gaq (by decide))) by6657_wf
        have b6663 : PQ (fun j => fI H6658 pq j) (x6656.toNatClampNeg) (x6655.toInt) (x6402.toInt) (B) (x6403.toInt) := PQ.congr (fun j => fI_kept (x_lt hTH6646 kH6658 gpq (by decide))) by6657_pq
        have g6664 : CG (avw K H6658 a0) := CG.congr (fun k hk j => av_eff hTH6646 kH6658 ga0 (by decide) (CG_eff [] (by decide) k hk)) gy6657_CG
        have g6665 : TU (avw K H6658 a0) (svw K H6658 a0) := TU.congr (fun k hk j => av_eff hTH6646 kH6658 ga0 (by decide) (TU_eff [] (by decide) k hk)) (fun k hk => sv_eff hTH6646 kH6658 ga0 (by decide)) gy6657_TU
        have g6666 : WD (avw K H6658 a0) := WD.congr (fun k hk j => av_eff hTH6646 kH6658 ga0 (by decide) (WD_eff [] (by decide) k hk)) gy6657_WD
        have g6667 : IM (avw K H6658 a0) := IM.congr (fun k hk j => av_eff hTH6646 kH6658 ga0 (by decide) (IM_eff [] (by decide) k hk)) gy6657_IM
        have m6668 := (ex6650).trans (fI_kept (x_lt hTH6646 kH6658 ga0 (by decide))).symm
        have m6669 := (ex6651).trans (fI_kept (x_lt hTH6646 kH6658 ga0 (by decide))).symm
        have m6670 := (ex6652).trans (fI_kept (x_lt hTH6646 kH6658 ga0 (by decide))).symm
        have m6671 := (ex6653).trans (fI_kept (x_lt hTH6646 kH6658 ga0 (by decide))).symm
        have m6672 := (ex6654).trans (fI_kept (x_lt hTH6646 kH6658 ga0 (by decide))).symm
        have m6673 := (ex6655).trans (fI_kept (x_lt hTH6646 kH6658 ga0 (by decide))).symm
        have m6674 := (ex6656).trans (fI_kept (x_lt hTH6646 kH6658 ga0 (by decide))).symm
        have m6675 := (cy6657_0).trans (fR_kept (x_lt hTH6646 kH6658 ga0 (by decide))).symm
        have m6676 := (cy6657_1).trans (fR_kept (x_lt hTH6646 kH6658 ga0 (by decide))).symm
        have m6677 := (cy6657_2).trans (fR_kept (x_lt hTH6646 kH6658 ga0 (by decide))).symm
        have m6678 := (cy6657_3).trans (fI_kept (x_lt hTH6646 kH6658 ga0 (by decide))).symm
        have m6679 := (cy6657_4).trans (fI_kept (x_lt hTH6646 kH6658 ga0 (by decide))).symm
        refine W.eq (g2 := F0 m 145 ls6647 [.int x6659]) rfl ?_
        refine lv_if_eq (tgt := 175) hx hb dX10_readAny_145 (by decide) (fun c6680 => ?_) (fun c6680 => ?_)
        · have k6681 := i_eq c6680
          have cl_mn := i_cl (x := mn) (by omega)
          have cl_x6654 := i_cl (x := x6654) (by omega)
          have cl_x6656 := i_cl (x := x6656) (by omega)
          exact J175 ls6647 H6658 locsH6658 (x6650) (x6651) (x6652) (x6653) (x6654) (x6655) (x6656) (lv_sub hl6648 [0, 1, 2] rfl) hTH6658 hSH6658 ⟨by have := i_rng x6403; omega, by have := i_rng x6403; omega⟩ ⟨by have := i_rng x6650; omega, by have := i_rng x6650; omega⟩ ⟨by have := i_rng x6651; omega, by have := i_rng x6651; omega⟩ ⟨by have := i_rng x6654; omega, by have := i_rng x6654; omega⟩ ⟨by have := i_rng x6655; omega, by have := i_rng x6655; omega⟩ ⟨by have := i_rng x6656; omega, by have := i_rng x6656; omega⟩ m6668 m6669 m6670 m6671 m6672 m6673 m6674 m6675 m6676 m6677 m6678 m6679 b6661 (WF.castE b6662 (by omega) (by omega) (by omega)) (PQ.cast b6663 (by omega) (by omega) (by omega) (by omega) (by omega)) mf6660 g6664 g6665 g6666 g6667 (by and_intros <;> first | assumption | omega)
        · have k6681 := i_ne c6680
          replace hrH6658 := hrH6658.resolve_left (by omega)
          replace i3 := i3.resolve_left (by omega)
          clear i4
          refine lv_aload_n hx hb dX10_readAny_148 rfl (lv_at hl6648 0 rfl) ?_
          refine lv_bipush (v := 10) hx hb dX10_readAny_149 (by decide) ?_
          have cc_x6656 := i_cl (x := x6656) (by omega)
          have cc_x6654 := i_cl (x := x6654) (by omega)
          have pqc : PQ (fun j => fI H6658 pq j) (x6656.toNatClampNeg) (x6655.toInt) (x6402.toInt) (B) (x6403.toInt) := PQ.cast b6663 (by omega) (by omega) rfl rfl rfl
          have hcb := pqc.2.2.2.1
          have hco := pqc.2.1
          have hck := pqc.2.2.1
          refine x_V (As := [.int 10]) (rest := []) C (a_X10_settles l K G H6658 (10) (mn) (x6656) (x6654) (x6655) hTH6658 ga0 (by decide) goq m6675 gaq m6676 gpq m6677 m6674 m6672 m6673 g6664 g6665 g6666 g6667 (WF.castE b6662 (by omega) (by omega) (by omega)) (by and_intros <;> first | assumption | omega) (by and_intros <;> first | assumption | omega) (pqc.1) (pqc.2.1)) yo_X10_settles wM_X10_273 ⟨⟨by decide, by decide⟩, by decide, by decide⟩ (x_rv C hTH6658 (ci := 10) rfl ga0 rg_112) rfl hl6648.1 rfl (Nat.le_of_ble_eq_true rfl) dX10_readAny_151 hSH6658 (AE_sub (fun _ _ => rfl) (by decide) hSH6658.1) (fun vH6682 H6682 locsH6682 pH6682 zH6682 kH6682 hSH6682 => ?_)
          obtain ⟨x6683, x6684, x6685, hvH6682, ex6683, ex6684, ex6685, hrH6682, m6686, m6687, m6688, g6689, g6690, g6691, g6692, mf6693, m6694, m6695, m6696, m6697, m6698, m6699, hTH6682⟩ := pH6682
          subst hvH6682
          clear zH6682
          replace m6686 := EQN.mk m6686
          replace m6687 := EQN.mk m6687
          replace m6688 := EQN.mk m6688
          have b6700 : PQ (fun j => fI H6682 pq j) (x6656.toNatClampNeg) (x6655.toInt) (x6402.toInt) (B) (x6403.toInt) := PQ.congr (fun j => fI_kept (x_lt hTH6658 kH6682 gpq (by decide))) pqc
          have m6701 := (m6668).trans (MF.i mf6693 (k := 19) (by decide) (by decide)).symm
          have m6702 := (m6669).trans (MF.i mf6693 (k := 20) (by decide) (by decide)).symm
          have m6703 := (m6670).trans (MF.i mf6693 (k := 21) (by decide) (by decide)).symm
          have m6704 := (m6671).trans (MF.i mf6693 (k := 22) (by decide) (by decide)).symm
          have m6705 := (m6675).trans (MF.r mf6693 (k := 32) (by decide) (by decide)).symm
          have m6706 := (m6676).trans (MF.r mf6693 (k := 33) (by decide) (by decide)).symm
          have m6707 := (m6677).trans (MF.r mf6693 (k := 37) (by decide) (by decide)).symm
          have m6708 := (m6678).trans (MF.i mf6693 (k := 18) (by decide) (by decide)).symm
          have m6709 := (m6679).trans (MF.i mf6693 (k := 34) (by decide) (by decide)).symm
          have mf6710 : MF K s.heap H6682 a0 [19, 20, 21, 22, 35, 36, 38, 39, 40] := MF.trans mf6660 mf6693 (by decide)
          have bx6683 := ty_fi (x := x6683) (k := 38) ex6683 hTH6682 ga0 rg_112 rfl
          have bx6684 := ty_fi (x := x6684) (k := 35) ex6684 hTH6682 ga0 rg_112 rfl
          have bx6685 := ty_fi (x := x6685) (k := 36) ex6685 hTH6682 ga0 rg_112 rfl
          obtain ⟨raH6682, rbH6682, rcH6682⟩ := hrH6682
          replace rcH6682 := rcH6682.resolve_left (fun h => absurd (n_10.symm.trans h.1) (by decide))
          replace m6697 := HD.mk m6697
          replace m6699 := HD.mk m6699
          have cs_mn := i_cl (x := mn) (by omega)
          have b6711 : ∀ j : Nat, j < 3000 + mn.toNatClampNeg → fI H6682 oq j = fI s.heap oq j ∧ fI H6682 aq j = fI s.heap aq j := fun j hj => ⟨(m6694 j (by omega)).1.trans (b6661 j hj).1, (m6694 j (by omega)).2.trans (b6661 j hj).2⟩
          have b6712 : WF (fun k => fI H6682 oq k) (fun k => fI H6682 aq k) (3000 + mn.toNatClampNeg) (3000 + x6654.toNatClampNeg) 0 (B + 1 - x6403.toNatClampNeg) := WF.keep b6662 (fun j hj => (m6694 j (by omega)).1) (fun j hj => (m6694 j (by omega)).2)
          refine W.eq (g2 := F0 m 154 ls6647 []) rfl ?_
          have cc_x6683 := i_cl (x := x6683) (by omega)
          have cc_x6684 := i_cl (x := x6684) (by omega)
          have eqp : ∀ j : Nat, fI H6682 pq j = fI H6658 pq j := fun j => fI_kept (x_lt hTH6658 kH6682 gpq (by decide))
          have pq0 : PQ (fun j => fI H6658 pq j) (x6683.toNatClampNeg) (x6685.toInt) (x6402.toInt) (cB (fun j => fI H6658 pq j) x6683.toNatClampNeg) 0 := PQ.settle (w := 10) pqc (by omega) m6695 m6696 (by decide) ((m6697.out).imp (fun h => by omega) (fun h => by show (fI _ pq _).toInt ≠ 10; rw [n_10] at h; exact h)) ((m6699.out).imp (fun h => by omega) (fun h => by show (fI _ pq _).toInt = 10; rw [n_10] at h; exact h)) (Or.inr (by omega))
          have pqn : PQ (fun j => fI H6682 pq j) (x6683.toNatClampNeg) (x6685.toInt) (x6402.toInt) (cB (fun j => fI H6658 pq j) x6683.toNatClampNeg) (0) := PQ.congr eqp pq0
          have t10 : HD (x6683.toNatClampNeg = 0 ∨ (fI H6682 pq (x6683.toNatClampNeg - 1)).toInt = 11 ∨ (fI H6682 pq (x6683.toNatClampNeg - 1)).toInt = 12) := PQ.top10 pqn ((m6697.out).imp (fun h => by omega) (fun h => by show (fI _ pq _).toInt ≠ 10; rw [eqp]; rw [n_10] at h; exact h))
          have pq10 := pqn
          refine lv_aload_n hx hb dX10_readAny_154 rfl (lv_at hl6648 0 rfl) ?_
          refine lv_bipush (v := 11) hx hb dX10_readAny_155 (by decide) ?_
          have pqc : PQ (fun j => fI H6682 pq j) (x6683.toNatClampNeg) (x6685.toInt) (x6402.toInt) (cB (fun j => fI H6658 pq j) x6683.toNatClampNeg) (0) := PQ.cast pqn (by omega) (by omega) rfl rfl rfl
          have hcb := pqc.2.2.2.1
          have hco := pqc.2.1
          have hck := pqc.2.2.1
          refine x_V (As := [.int 11]) (rest := []) C (a_X10_settles l K G H6682 (11) (mn) (x6683) (x6684) (x6685) hTH6682 ga0 (by decide) goq m6686 gaq m6687 gpq m6688 ex6683 ex6684 ex6685 g6689 g6690 g6691 g6692 (WF.castE m6698 (by omega) (by omega) (by omega)) (by and_intros <;> first | assumption | omega) (by and_intros <;> first | assumption | omega) (pqc.1) (pqc.2.1)) yo_X10_settles wM_X10_273 ⟨⟨by decide, by decide⟩, by decide, by decide⟩ (x_rv C hTH6682 (ci := 10) rfl ga0 rg_112) rfl hl6648.1 rfl (Nat.le_of_ble_eq_true rfl) dX10_readAny_157 hSH6682 (AE_sub (fun _ _ => rfl) (by decide) hSH6682.1) (fun vH6713 H6713 locsH6713 pH6713 zH6713 kH6713 hSH6713 => ?_)
          obtain ⟨x6714, x6715, x6716, hvH6713, ex6714, ex6715, ex6716, hrH6713, m6717, m6718, m6719, g6720, g6721, g6722, g6723, mf6724, m6725, m6726, m6727, m6728, m6729, m6730, hTH6713⟩ := pH6713
          subst hvH6713
          clear zH6713
          replace m6717 := EQN.mk m6717
          replace m6718 := EQN.mk m6718
          replace m6719 := EQN.mk m6719
          have b6731 : PQ (fun j => fI H6713 pq j) (x6683.toNatClampNeg) (x6685.toInt) (x6402.toInt) (cB (fun j => fI H6658 pq j) x6683.toNatClampNeg) (0) := PQ.congr (fun j => fI_kept (x_lt hTH6682 kH6713 gpq (by decide))) pqc
          have m6732 := (m6701).trans (MF.i mf6724 (k := 19) (by decide) (by decide)).symm
          have m6733 := (m6702).trans (MF.i mf6724 (k := 20) (by decide) (by decide)).symm
          have m6734 := (m6703).trans (MF.i mf6724 (k := 21) (by decide) (by decide)).symm
          have m6735 := (m6704).trans (MF.i mf6724 (k := 22) (by decide) (by decide)).symm
          have m6736 := (m6686).trans (MF.r mf6724 (k := 32) (by decide) (by decide)).symm
          have m6737 := (m6687).trans (MF.r mf6724 (k := 33) (by decide) (by decide)).symm
          have m6738 := (m6688).trans (MF.r mf6724 (k := 37) (by decide) (by decide)).symm
          have m6739 := (m6708).trans (MF.i mf6724 (k := 18) (by decide) (by decide)).symm
          have m6740 := (m6709).trans (MF.i mf6724 (k := 34) (by decide) (by decide)).symm
          have mf6741 : MF K s.heap H6713 a0 [19, 20, 21, 22, 35, 36, 38, 39, 40] := MF.trans mf6710 mf6724 (by decide)
          have bx6714 := ty_fi (x := x6714) (k := 38) ex6714 hTH6713 ga0 rg_112 rfl
          have bx6715 := ty_fi (x := x6715) (k := 35) ex6715 hTH6713 ga0 rg_112 rfl
          have bx6716 := ty_fi (x := x6716) (k := 36) ex6716 hTH6713 ga0 rg_112 rfl
          obtain ⟨raH6713, rbH6713, rcH6713⟩ := hrH6713
          replace rcH6713 := rcH6713.resolve_left (fun h => absurd (n_11.symm.trans h.1) (by decide))
          replace m6728 := HD.mk m6728
          replace m6730 := HD.mk m6730
          have b6742 : ∀ j : Nat, j < 3000 + mn.toNatClampNeg → fI H6713 oq j = fI s.heap oq j ∧ fI H6713 aq j = fI s.heap aq j := fun j hj => ⟨(m6725 j (by omega)).1.trans (b6711 j hj).1, (m6725 j (by omega)).2.trans (b6711 j hj).2⟩
          have b6743 : WF (fun k => fI H6713 oq k) (fun k => fI H6713 aq k) (3000 + mn.toNatClampNeg) (3000 + x6684.toNatClampNeg) 0 (cB (fun j => fI H6658 pq j) x6683.toNatClampNeg + 1) := WF.keep m6698 (fun j hj => (m6725 j (by omega)).1) (fun j hj => (m6725 j (by omega)).2)
          refine W.eq (g2 := F0 m 160 ls6647 []) rfl ?_
          have cc_x6714 := i_cl (x := x6714) (by omega)
          have cc_x6715 := i_cl (x := x6715) (by omega)
          have eqp : ∀ j : Nat, fI H6713 pq j = fI H6682 pq j := fun j => fI_kept (x_lt hTH6682 kH6713 gpq (by decide))
          have pq0 : PQ (fun j => fI H6682 pq j) (x6714.toNatClampNeg) (x6716.toInt) (x6402.toInt) (cB (fun j => fI H6682 pq j) x6714.toNatClampNeg) 0 := PQ.settle (w := 11) pqc (by omega) m6726 m6727 (by decide) ((m6728.out).imp (fun h => by omega) (fun h => by show (fI _ pq _).toInt ≠ 11; rw [n_11] at h; exact h)) ((m6730.out).imp (fun h => by omega) (fun h => by show (fI _ pq _).toInt = 11; rw [n_11] at h; exact h)) (Or.inr (by omega))
          have pqn : PQ (fun j => fI H6713 pq j) (x6714.toNatClampNeg) (x6716.toInt) (x6402.toInt) (cB (fun j => fI H6682 pq j) x6714.toNatClampNeg) (0) := PQ.congr eqp pq0
          have t11 : HD (x6714.toNatClampNeg = 0 ∨ (fI H6713 pq (x6714.toNatClampNeg - 1)).toInt = 12) := PQ.top11 (PQ.congr eqp pq10) (by show _ ∨ (fI _ pq _).toInt = 11 ∨ (fI _ pq _).toInt = 12; rw [eqp]; exact t10) (by omega) ((m6730.out).imp (fun h => by omega) (fun h => by show (fI _ pq _).toInt = 11; rw [eqp]; rw [n_11] at h; exact h)) ((m6728.out).imp (fun h => by omega) (fun h => by show (fI _ pq _).toInt ≠ 11; rw [eqp]; rw [n_11] at h; exact h))
          refine lv_aload_n hx hb dX10_readAny_160 rfl (lv_at hl6648 0 rfl) ?_
          refine lv_bipush (v := 11) hx hb dX10_readAny_161 (by decide) ?_
          have pqc : PQ (fun j => fI H6713 pq j) (x6714.toNatClampNeg) (x6716.toInt) (x6402.toInt) (cB (fun j => fI H6682 pq j) x6714.toNatClampNeg) (0) := PQ.cast pqn (by omega) (by omega) rfl rfl rfl
          have hcb := pqc.2.2.2.1
          have hco := pqc.2.1
          have hck := pqc.2.2.1
          have h26 := PD.n26 pqc.1 (by omega)
          refine x_V (As := [.int 11]) (rest := []) C (a_X10_waits l K G H6713 (11) (x6714) hTH6713 ga0 gpq m6719 ex6714 g6720 g6721 g6722 g6723 (by and_intros <;> first | assumption | omega)) yo_X10_waits wM_X10_267 ⟨⟨by decide, by decide⟩, by decide, by decide⟩ (x_rv C hTH6713 (ci := 10) rfl ga0 rg_112) rfl hl6648.1 rfl (Nat.le_of_ble_eq_true rfl) dX10_readAny_163 hSH6713 (AE_sub (fun _ _ => rfl) (by decide) hSH6713.1) (fun vH6744 H6744 locsH6744 pH6744 zH6744 kH6744 hSH6744 => ?_)
          obtain ⟨x6745, hvH6744, ex6745, hrH6744, m6746, g6747, g6748, g6749, g6750, mf6751, m6752, m6753, hTH6744⟩ := pH6744
          subst hvH6744
          clear zH6744
          replace m6746 := EQN.mk m6746
          have b6754 : ∀ j : Nat, j < 3000 + mn.toNatClampNeg → fI H6744 oq j = fI s.heap oq j ∧ fI H6744 aq j = fI s.heap aq j := fun j hj => ⟨(fI_kept (x_lt hTH6713 kH6744 goq (by decide))).trans (b6742 j hj).1, (fI_kept (x_lt hTH6713 kH6744 gaq (by decide))).trans (b6742 j hj).2⟩
          have b6755 : WF (fun k => fI H6744 oq k) (fun k => fI H6744 aq k) (3000 + mn.toNatClampNeg) (3000 + x6715.toNatClampNeg) 0 (cB (fun j => fI H6682 pq j) x6714.toNatClampNeg + 1) := WF.congr (fun j => fI_kept (x_lt hTH6713 kH6744 goq (by decide))) (fun j => fI_kept (x_lt hTH6713 kH6744 gaq (by decide))) m6729
          have m6756 := (m6732).trans (MF.i mf6751 (k := 19) (by decide) (by decide)).symm
          have m6757 := (m6733).trans (MF.i mf6751 (k := 20) (by decide) (by decide)).symm
          have m6758 := (m6734).trans (MF.i mf6751 (k := 21) (by decide) (by decide)).symm
          have m6759 := (m6735).trans (MF.i mf6751 (k := 22) (by decide) (by decide)).symm
          have m6760 := (m6717).trans (MF.r mf6751 (k := 32) (by decide) (by decide)).symm
          have m6761 := (m6718).trans (MF.r mf6751 (k := 33) (by decide) (by decide)).symm
          have m6762 := (m6719).trans (MF.r mf6751 (k := 37) (by decide) (by decide)).symm
          have m6763 := (m6739).trans (MF.i mf6751 (k := 18) (by decide) (by decide)).symm
          have m6764 := (m6740).trans (MF.i mf6751 (k := 34) (by decide) (by decide)).symm
          have m6765 := (ex6715).trans (MF.i mf6751 (k := 35) (by decide) (by decide)).symm
          have m6766 := (ex6716).trans (MF.i mf6751 (k := 36) (by decide) (by decide)).symm
          have mf6767 : MF K s.heap H6744 a0 [19, 20, 21, 22, 35, 36, 38, 39, 40] := MF.trans mf6741 mf6751 (by decide)
          have bx6745 := ty_fi (x := x6745) (k := 38) ex6745 hTH6744 ga0 rg_112 rfl
          refine W.eq (g2 := F0 m 166 ls6647 []) rfl ?_
          have cc_x6745 := i_cl (x := x6745) (by omega)
          have hwx := congrArg Int32.toInt m6752
          have pqn : PQ (fun j => fI H6744 pq j) (x6745.toNatClampNeg) (x6716.toInt) (x6402.toInt) (cB (fun j => fI H6682 pq j) x6714.toNatClampNeg + 1) (1) := PQ.push (v := 11) pqc (by show (fI _ pq _).toInt = 11; rw [← m6752]; rfl) m6753 (by omega) (Or.inr (Or.inr (Or.inr ⟨rfl, rfl, rfl, rfl, t11⟩)))
          refine lv_aload_n hx hb dX10_readAny_166 rfl (lv_at hl6648 0 rfl) ?_
          obtain ⟨q6768, eq6768⟩ : ∃ z : Nat, EQN z (fR H6744 a0 (K.1.2 10 17)) := ⟨_, rfl⟩
          have gq6768 := ty_fr (q := q6768) (k := 17) (u := 126) eq6768 hTH6744 ga0 rg_112 rfl
          replace eq6768 := EQN.mk eq6768
          refine x_V (As := []) (rest := []) C (a_X10_reads l K G H6744 (x6650) (x6651) (x6652) (x6653) (tp) hTH6744 ga0 gq6768 eq6768 m6756 m6757 m6758 m6759 m6763 g6747 g6748 g6749 g6750 (by and_intros <;> first | assumption | omega)) yo_X10_reads wM_X10_242 ⟨⟨by decide, by decide⟩, by decide, by decide⟩ (x_rv C hTH6744 (ci := 10) rfl ga0 rg_112) rfl hl6648.1 rfl (Nat.le_of_ble_eq_true rfl) dX10_readAny_167 hSH6744 (AE_sub (fun _ _ => rfl) (by decide) hSH6744.1) (fun vH6769 H6769 locsH6769 pH6769 zH6769 kH6769 hSH6769 => ?_)
          obtain ⟨x6770, x6771, x6772, x6773, hvH6769, ex6770, ex6771, ex6772, ex6773, hrH6769, m6774, g6775, g6776, g6777, g6778, mf6779, hTH6769⟩ := pH6769
          subst hvH6769
          clear zH6769
          replace m6774 := EQN.mk m6774
          have b6780 : ∀ j : Nat, j < 3000 + mn.toNatClampNeg → fI H6769 oq j = fI s.heap oq j ∧ fI H6769 aq j = fI s.heap aq j := fun j hj => ⟨(fI_kept (x_lt hTH6744 kH6769 goq (by decide))).trans (b6754 j hj).1, (fI_kept (x_lt hTH6744 kH6769 gaq (by decide))).trans (b6754 j hj).2⟩
          have b6781 : WF (fun k => fI H6769 oq k) (fun k => fI H6769 aq k) (3000 + mn.toNatClampNeg) (3000 + x6715.toNatClampNeg) 0 (cB (fun j => fI H6682 pq j) x6714.toNatClampNeg + 1) := WF.congr (fun j => fI_kept (x_lt hTH6744 kH6769 goq (by decide))) (fun j => fI_kept (x_lt hTH6744 kH6769 gaq (by decide))) b6755
          have b6782 : PQ (fun j => fI H6769 pq j) (x6745.toNatClampNeg) (x6716.toInt) (x6402.toInt) (cB (fun j => fI H6682 pq j) x6714.toNatClampNeg + 1) (1) := PQ.congr (fun j => fI_kept (x_lt hTH6744 kH6769 gpq (by decide))) pqn
          have m6783 := (m6760).trans (MF.r mf6779 (k := 32) (by decide) (by decide)).symm
          have m6784 := (m6761).trans (MF.r mf6779 (k := 33) (by decide) (by decide)).symm
          have m6785 := (m6746).trans (MF.r mf6779 (k := 37) (by decide) (by decide)).symm
          have m6786 := (m6763).trans (MF.i mf6779 (k := 18) (by decide) (by decide)).symm
          have m6787 := (m6764).trans (MF.i mf6779 (k := 34) (by decide) (by decide)).symm
          have m6788 := (m6765).trans (MF.i mf6779 (k := 35) (by decide) (by decide)).symm
          have m6789 := (m6766).trans (MF.i mf6779 (k := 36) (by decide) (by decide)).symm
          have m6790 := (ex6745).trans (MF.i mf6779 (k := 38) (by decide) (by decide)).symm
          have m6791 := (eq6768).trans (MF.r mf6779 (k := 17) (by decide) (by decide)).symm
          have mf6792 : MF K s.heap H6769 a0 [19, 20, 21, 22, 35, 36, 38, 39, 40] := MF.trans mf6767 mf6779 (by decide)
          have bx6770 := ty_fi (x := x6770) (k := 19) ex6770 hTH6769 ga0 rg_112 rfl
          have bx6771 := ty_fi (x := x6771) (k := 20) ex6771 hTH6769 ga0 rg_112 rfl
          have bx6772 := ty_fi (x := x6772) (k := 21) ex6772 hTH6769 ga0 rg_112 rfl
          have bx6773 := ty_fi (x := x6773) (k := 22) ex6773 hTH6769 ga0 rg_112 rfl
          obtain ⟨r1H6769, r2H6769, r3H6769, r4H6769, r5H6769, r6H6769, r7H6769⟩ := hrH6769
          refine W.eq (g2 := F0 m 170 ls6647 []) rfl ?_
          refine lv_iconst (v := 1) hx hb dX10_readAny_170 (by decide) ?_
          refine lv_istore_n (lv' := [(2, .int 1), (0, .ref a0), (1, .int x6402)]) hx hb dX10_readAny_171 rfl hl6648 (by decide) rfl (fun ls6793 hl6794 => ?_)
          refine lv_goto (tgt := 9) hx hb dX10_readAny_172 (by decide) ?_
          have cl_1 := i_cl (x := (1 : Int32)) (by omega)
          have ca_k1 : (1 : Int32).toNatClampNeg = 1 := rfl
          have hpb := b6782.2.2.2.1
          exact ih9 (cB (fun j => fI H6682 pq j) x6714.toNatClampNeg + 1) ls6793 H6769 locsH6769 (x6402) (1) (x6770) (x6771) (x6772) (x6773) (x6715) (x6716) (x6745) (lv_sub hl6794 [1, 2, 0] rfl) hTH6769 hSH6769 ⟨by have := i_rng x6402; omega, by have := i_rng x6402; omega⟩ (by decide) ⟨by have := i_rng x6770; omega, by have := i_rng x6770; omega⟩ ⟨by have := i_rng x6771; omega, by have := i_rng x6771; omega⟩ ⟨by have := i_rng x6715; omega, by have := i_rng x6715; omega⟩ ⟨by have := i_rng x6716; omega, by have := i_rng x6716; omega⟩ ⟨by have := i_rng x6745; omega, by have := i_rng x6745; omega⟩ ex6770 ex6771 ex6772 ex6773 m6788 m6789 m6790 m6783 m6784 m6785 m6786 m6787 b6780 (WF.castE b6781 (by omega) (by omega) (by omega)) (PQ.cast b6782 (by omega) (by omega) (by omega) (by omega) (by omega)) mf6792 g6775 g6776 g6777 g6778 (by omega) (by and_intros <;> first | assumption | omega) 
      have J109 : ∀ (ls6796 : Array Slot) (H6795 : Heap) (locsH6795 : List Loc) (x6799 : Int32) (x6800 : Int32) (x6801 : Int32) (x6802 : Int32) (x6803 : Int32) (x6804 : Int32) (x6805 : Int32), lv_has ls6796 4 [(0, .ref a0), (1, .int x6402), (2, .int x6403)] → TY K G H6795 → va_S (AE G [112, 136, 137, 138] s.heap.size) s.heap H6795 locsH6795 → (0 ≤ x6403.toInt ∧ x6403.toInt ≤ 0) → (0 ≤ x6799.toInt ∧ x6799.toInt ≤ 500) → (0 ≤ x6800.toInt ∧ x6800.toInt ≤ 500) → (0 ≤ x6803.toInt ∧ x6803.toInt ≤ 500) → (0 ≤ x6804.toInt ∧ x6804.toInt ≤ 8) → (0 ≤ x6805.toInt ∧ x6805.toInt ≤ 40) → (x6799 = fI H6795 a0 (K.1.2 10 19)) → (x6800 = fI H6795 a0 (K.1.2 10 20)) → (x6801 = fI H6795 a0 (K.1.2 10 21)) → (x6802 = fI H6795 a0 (K.1.2 10 22)) → (x6803 = fI H6795 a0 (K.1.2 10 35)) → (x6804 = fI H6795 a0 (K.1.2 10 36)) → (x6805 = fI H6795 a0 (K.1.2 10 38)) → (EQN oq (fR H6795 a0 (K.1.2 10 32))) → (EQN aq (fR H6795 a0 (K.1.2 10 33))) → (EQN pq (fR H6795 a0 (K.1.2 10 37))) → (tp = fI H6795 a0 (K.1.2 10 18)) → (jb = fI H6795 a0 (K.1.2 10 34)) → (∀ j : Nat, j < 3000 + mn.toNatClampNeg → fI H6795 oq j = fI s.heap oq j ∧ fI H6795 aq j = fI s.heap aq j) → (WF (fun k => fI H6795 oq k) (fun k => fI H6795 aq k) (3000 + mn.toNatClampNeg) (3000 + x6803.toNatClampNeg) 0 (B + 1 - x6403.toNatClampNeg)) → (PQ (fun j => fI H6795 pq j) (x6805.toNatClampNeg) (x6804.toInt) (x6402.toInt) (B) (x6403.toInt)) → (MF K s.heap H6795 a0 [19, 20, 21, 22, 35, 36, 38, 39, 40]) → (CG (avw K H6795 a0)) → (TU (avw K H6795 a0) (svw K H6795 a0)) → (WD (avw K H6795 a0)) → (IM (avw K H6795 a0)) → ((x6799.toInt ≤ tp.toInt ∧ x6800.toInt ≤ x6799.toInt ∧ (x6801.toInt = 0 ∨ x6800.toInt < x6799.toInt) ∧ (x6801.toInt ≠ 2 ∨ (0 ≤ x6802.toInt ∧ x6802.toInt ≤ 23))) ∧ x6803.toInt + x6805.toInt + fr.toInt ≤ mn.toInt + x6800.toInt ∧ mn.toInt ≤ x6803.toInt ∧ fr.toInt ≤ x6800.toInt ∧ x6800.toInt = x6405.toInt) → W p l e ({ frames := 7, cells := 0, slots := 0, locals := 149 } : Room) s m (([.ref a0] : List Value).toArray) below meth c H6795 locsH6795 0 0 Q (F0 m 109 ls6796 []) := by
        intro ls6796 H6795 locsH6795 x6799 x6800 x6801 x6802 x6803 x6804 x6805 hl6797 hTH6795 hSH6795 b6798 bx6799 bx6800 bx6803 bx6804 bx6805 ex6799 ex6800 ex6801 ex6802 ex6803 ex6804 ex6805 cy6806_0 cy6806_1 cy6806_2 cy6806_3 cy6806_4 by6806_pf by6806_wf by6806_pq mfy6806 gy6806_CG gy6806_TU gy6806_WD gy6806_IM iv109
        clear i1 i2 i3 i4 i5 i6 i7
        obtain ⟨⟨i1, i2, i3, i4⟩, i5, i6, i7, i8⟩ := iv109
        refine lv_aload_n hx hb dX10_readAny_109 rfl (lv_at hl6797 0 rfl) ?_
        refine lv_bipush (v := 8) hx hb dX10_readAny_110 (by decide) ?_
        refine x_V (As := [.int 8]) (rest := []) C (a_X10_isWord l K G H6795 (8) (x6801) (x6802) hTH6795 ga0 ex6801 ex6802) yo_X10_isWord wM_X10_264 ⟨⟨by decide, by decide⟩, by decide, by decide⟩ (x_rv C hTH6795 (ci := 10) rfl ga0 rg_112) rfl hl6797.1 rfl (Nat.le_of_ble_eq_true rfl) dX10_readAny_112 hSH6795 (AE_sub (fun _ _ => rfl) (by decide) hSH6795.1) (fun vH6807 H6807 locsH6807 pH6807 zH6807 kH6807 hSH6807 => ?_)
        obtain ⟨x6808, hvH6807, bx6808, hrH6807, hTH6807⟩ := pH6807
        subst hvH6807
        clear zH6807
        have mf6809 : MF K s.heap H6807 a0 [19, 20, 21, 22, 35, 36, 38, 39, 40] := MF.eff (x_lt hTH6795 kH6807 ga0 (by decide)) mfy6806
        have b6810 : ∀ j : Nat, j < 3000 + mn.toNatClampNeg → fI H6807 oq j = fI s.heap oq j ∧ fI H6807 aq j = fI s.heap aq j := fun j hj => ⟨(fI_kept (x_lt hTH6795 kH6807 goq (by decide))).trans (by6806_pf j hj).1, (fI_kept (x_lt hTH6795 kH6807 gaq (by decide))).trans (by6806_pf j hj).2⟩
        have b6811 : WF (fun k => fI H6807 oq k) (fun k => fI H6807 aq k) (3000 + mn.toNatClampNeg) (3000 + x6803.toNatClampNeg) 0 (B + 1 - x6403.toNatClampNeg) := WF.congr (fun j => fI_kept (x_lt hTH6795 kH6807 goq (by decide))) (fun j => fI_kept (x_lt hTH6795 kH6807 gaq (by decide))) by6806_wf
        have b6812 : PQ (fun j => fI H6807 pq j) (x6805.toNatClampNeg) (x6804.toInt) (x6402.toInt) (B) (x6403.toInt) := PQ.congr (fun j => fI_kept (x_lt hTH6795 kH6807 gpq (by decide))) by6806_pq
        have g6813 : CG (avw K H6807 a0) := CG.congr (fun k hk j => av_eff hTH6795 kH6807 ga0 (by decide) (CG_eff [] (by decide) k hk)) gy6806_CG
        have g6814 : TU (avw K H6807 a0) (svw K H6807 a0) := TU.congr (fun k hk j => av_eff hTH6795 kH6807 ga0 (by decide) (TU_eff [] (by decide) k hk)) (fun k hk => sv_eff hTH6795 kH6807 ga0 (by decide)) gy6806_TU
        have g6815 : WD (avw K H6807 a0) := WD.congr (fun k hk j => av_eff hTH6795 kH6807 ga0 (by decide) (WD_eff [] (by decide) k hk)) gy6806_WD
        have g6816 : IM (avw K H6807 a0) := IM.congr (fun k hk j => av_eff hTH6795 kH6807 ga0 (by decide) (IM_eff [] (by decide) k hk)) gy6806_IM
        have m6817 := (ex6799).trans (fI_kept (x_lt hTH6795 kH6807 ga0 (by decide))).symm
        have m6818 := (ex6800).trans (fI_kept (x_lt hTH6795 kH6807 ga0 (by decide))).symm
        have m6819 := (ex6801).trans (fI_kept (x_lt hTH6795 kH6807 ga0 (by decide))).symm
        have m6820 := (ex6802).trans (fI_kept (x_lt hTH6795 kH6807 ga0 (by decide))).symm
        have m6821 := (ex6803).trans (fI_kept (x_lt hTH6795 kH6807 ga0 (by decide))).symm
        have m6822 := (ex6804).trans (fI_kept (x_lt hTH6795 kH6807 ga0 (by decide))).symm
        have m6823 := (ex6805).trans (fI_kept (x_lt hTH6795 kH6807 ga0 (by decide))).symm
        have m6824 := (cy6806_0).trans (fR_kept (x_lt hTH6795 kH6807 ga0 (by decide))).symm
        have m6825 := (cy6806_1).trans (fR_kept (x_lt hTH6795 kH6807 ga0 (by decide))).symm
        have m6826 := (cy6806_2).trans (fR_kept (x_lt hTH6795 kH6807 ga0 (by decide))).symm
        have m6827 := (cy6806_3).trans (fI_kept (x_lt hTH6795 kH6807 ga0 (by decide))).symm
        have m6828 := (cy6806_4).trans (fI_kept (x_lt hTH6795 kH6807 ga0 (by decide))).symm
        refine W.eq (g2 := F0 m 115 ls6796 [.int x6808]) rfl ?_
        refine lv_if_eq (tgt := 139) hx hb dX10_readAny_115 (by decide) (fun c6829 => ?_) (fun c6829 => ?_)
        · have k6830 := i_eq c6829
          have cl_mn := i_cl (x := mn) (by omega)
          have cl_x6803 := i_cl (x := x6803) (by omega)
          have cl_x6805 := i_cl (x := x6805) (by omega)
          exact J139 ls6796 H6807 locsH6807 (x6799) (x6800) (x6801) (x6802) (x6803) (x6804) (x6805) (lv_sub hl6797 [0, 1, 2] rfl) hTH6807 hSH6807 ⟨by have := i_rng x6403; omega, by have := i_rng x6403; omega⟩ ⟨by have := i_rng x6799; omega, by have := i_rng x6799; omega⟩ ⟨by have := i_rng x6800; omega, by have := i_rng x6800; omega⟩ ⟨by have := i_rng x6803; omega, by have := i_rng x6803; omega⟩ ⟨by have := i_rng x6804; omega, by have := i_rng x6804; omega⟩ ⟨by have := i_rng x6805; omega, by have := i_rng x6805; omega⟩ m6817 m6818 m6819 m6820 m6821 m6822 m6823 m6824 m6825 m6826 m6827 m6828 b6810 (WF.castE b6811 (by omega) (by omega) (by omega)) (PQ.cast b6812 (by omega) (by omega) (by omega) (by omega) (by omega)) mf6809 g6813 g6814 g6815 g6816 (by and_intros <;> first | assumption | omega)
        · have k6830 := i_ne c6829
          replace hrH6807 := hrH6807.resolve_left (by omega)
          replace i3 := i3.resolve_left (by omega)
          clear i4
          refine lv_aload_n hx hb dX10_readAny_118 rfl (lv_at hl6797 0 rfl) ?_
          refine lv_bipush (v := 10) hx hb dX10_readAny_119 (by decide) ?_
          have cc_x6805 := i_cl (x := x6805) (by omega)
          have cc_x6803 := i_cl (x := x6803) (by omega)
          have pqc : PQ (fun j => fI H6807 pq j) (x6805.toNatClampNeg) (x6804.toInt) (x6402.toInt) (B) (x6403.toInt) := PQ.cast b6812 (by omega) (by omega) rfl rfl rfl
          have hcb := pqc.2.2.2.1
          have hco := pqc.2.1
          have hck := pqc.2.2.1
          refine x_V (As := [.int 10]) (rest := []) C (a_X10_settles l K G H6807 (10) (mn) (x6805) (x6803) (x6804) hTH6807 ga0 (by decide) goq m6824 gaq m6825 gpq m6826 m6823 m6821 m6822 g6813 g6814 g6815 g6816 (WF.castE b6811 (by omega) (by omega) (by omega)) (by and_intros <;> first | assumption | omega) (by and_intros <;> first | assumption | omega) (pqc.1) (pqc.2.1)) yo_X10_settles wM_X10_273 ⟨⟨by decide, by decide⟩, by decide, by decide⟩ (x_rv C hTH6807 (ci := 10) rfl ga0 rg_112) rfl hl6797.1 rfl (Nat.le_of_ble_eq_true rfl) dX10_readAny_121 hSH6807 (AE_sub (fun _ _ => rfl) (by decide) hSH6807.1) (fun vH6831 H6831 locsH6831 pH6831 zH6831 kH6831 hSH6831 => ?_)
          obtain ⟨x6832, x6833, x6834, hvH6831, ex6832, ex6833, ex6834, hrH6831, m6835, m6836, m6837, g6838, g6839, g6840, g6841, mf6842, m6843, m6844, m6845, m6846, m6847, m6848, hTH6831⟩ := pH6831
          subst hvH6831
          clear zH6831
          replace m6835 := EQN.mk m6835
          replace m6836 := EQN.mk m6836
          replace m6837 := EQN.mk m6837
          have b6849 : PQ (fun j => fI H6831 pq j) (x6805.toNatClampNeg) (x6804.toInt) (x6402.toInt) (B) (x6403.toInt) := PQ.congr (fun j => fI_kept (x_lt hTH6807 kH6831 gpq (by decide))) pqc
          have m6850 := (m6817).trans (MF.i mf6842 (k := 19) (by decide) (by decide)).symm
          have m6851 := (m6818).trans (MF.i mf6842 (k := 20) (by decide) (by decide)).symm
          have m6852 := (m6819).trans (MF.i mf6842 (k := 21) (by decide) (by decide)).symm
          have m6853 := (m6820).trans (MF.i mf6842 (k := 22) (by decide) (by decide)).symm
          have m6854 := (m6824).trans (MF.r mf6842 (k := 32) (by decide) (by decide)).symm
          have m6855 := (m6825).trans (MF.r mf6842 (k := 33) (by decide) (by decide)).symm
          have m6856 := (m6826).trans (MF.r mf6842 (k := 37) (by decide) (by decide)).symm
          have m6857 := (m6827).trans (MF.i mf6842 (k := 18) (by decide) (by decide)).symm
          have m6858 := (m6828).trans (MF.i mf6842 (k := 34) (by decide) (by decide)).symm
          have mf6859 : MF K s.heap H6831 a0 [19, 20, 21, 22, 35, 36, 38, 39, 40] := MF.trans mf6809 mf6842 (by decide)
          have bx6832 := ty_fi (x := x6832) (k := 38) ex6832 hTH6831 ga0 rg_112 rfl
          have bx6833 := ty_fi (x := x6833) (k := 35) ex6833 hTH6831 ga0 rg_112 rfl
          have bx6834 := ty_fi (x := x6834) (k := 36) ex6834 hTH6831 ga0 rg_112 rfl
          obtain ⟨raH6831, rbH6831, rcH6831⟩ := hrH6831
          replace rcH6831 := rcH6831.resolve_left (fun h => absurd (n_10.symm.trans h.1) (by decide))
          replace m6846 := HD.mk m6846
          replace m6848 := HD.mk m6848
          have cs_mn := i_cl (x := mn) (by omega)
          have b6860 : ∀ j : Nat, j < 3000 + mn.toNatClampNeg → fI H6831 oq j = fI s.heap oq j ∧ fI H6831 aq j = fI s.heap aq j := fun j hj => ⟨(m6843 j (by omega)).1.trans (b6810 j hj).1, (m6843 j (by omega)).2.trans (b6810 j hj).2⟩
          have b6861 : WF (fun k => fI H6831 oq k) (fun k => fI H6831 aq k) (3000 + mn.toNatClampNeg) (3000 + x6803.toNatClampNeg) 0 (B + 1 - x6403.toNatClampNeg) := WF.keep b6811 (fun j hj => (m6843 j (by omega)).1) (fun j hj => (m6843 j (by omega)).2)
          refine W.eq (g2 := F0 m 124 ls6796 []) rfl ?_
          have cc_x6832 := i_cl (x := x6832) (by omega)
          have cc_x6833 := i_cl (x := x6833) (by omega)
          have eqp : ∀ j : Nat, fI H6831 pq j = fI H6807 pq j := fun j => fI_kept (x_lt hTH6807 kH6831 gpq (by decide))
          have pq0 : PQ (fun j => fI H6807 pq j) (x6832.toNatClampNeg) (x6834.toInt) (x6402.toInt) (cB (fun j => fI H6807 pq j) x6832.toNatClampNeg) 0 := PQ.settle (w := 10) pqc (by omega) m6844 m6845 (by decide) ((m6846.out).imp (fun h => by omega) (fun h => by show (fI _ pq _).toInt ≠ 10; rw [n_10] at h; exact h)) ((m6848.out).imp (fun h => by omega) (fun h => by show (fI _ pq _).toInt = 10; rw [n_10] at h; exact h)) (Or.inr (by omega))
          have pqn : PQ (fun j => fI H6831 pq j) (x6832.toNatClampNeg) (x6834.toInt) (x6402.toInt) (cB (fun j => fI H6807 pq j) x6832.toNatClampNeg) (0) := PQ.congr eqp pq0
          have t10 : HD (x6832.toNatClampNeg = 0 ∨ (fI H6831 pq (x6832.toNatClampNeg - 1)).toInt = 11 ∨ (fI H6831 pq (x6832.toNatClampNeg - 1)).toInt = 12) := PQ.top10 pqn ((m6846.out).imp (fun h => by omega) (fun h => by show (fI _ pq _).toInt ≠ 10; rw [eqp]; rw [n_10] at h; exact h))
          have pq10 := pqn
          refine lv_aload_n hx hb dX10_readAny_124 rfl (lv_at hl6797 0 rfl) ?_
          refine lv_bipush (v := 10) hx hb dX10_readAny_125 (by decide) ?_
          have pqc : PQ (fun j => fI H6831 pq j) (x6832.toNatClampNeg) (x6834.toInt) (x6402.toInt) (cB (fun j => fI H6807 pq j) x6832.toNatClampNeg) (0) := PQ.cast pqn (by omega) (by omega) rfl rfl rfl
          have hcb := pqc.2.2.2.1
          have hco := pqc.2.1
          have hck := pqc.2.2.1
          have h26 := PD.n26 pqc.1 (by omega)
          refine x_V (As := [.int 10]) (rest := []) C (a_X10_waits l K G H6831 (10) (x6832) hTH6831 ga0 gpq m6837 ex6832 g6838 g6839 g6840 g6841 (by and_intros <;> first | assumption | omega)) yo_X10_waits wM_X10_267 ⟨⟨by decide, by decide⟩, by decide, by decide⟩ (x_rv C hTH6831 (ci := 10) rfl ga0 rg_112) rfl hl6797.1 rfl (Nat.le_of_ble_eq_true rfl) dX10_readAny_127 hSH6831 (AE_sub (fun _ _ => rfl) (by decide) hSH6831.1) (fun vH6862 H6862 locsH6862 pH6862 zH6862 kH6862 hSH6862 => ?_)
          obtain ⟨x6863, hvH6862, ex6863, hrH6862, m6864, g6865, g6866, g6867, g6868, mf6869, m6870, m6871, hTH6862⟩ := pH6862
          subst hvH6862
          clear zH6862
          replace m6864 := EQN.mk m6864
          have b6872 : ∀ j : Nat, j < 3000 + mn.toNatClampNeg → fI H6862 oq j = fI s.heap oq j ∧ fI H6862 aq j = fI s.heap aq j := fun j hj => ⟨(fI_kept (x_lt hTH6831 kH6862 goq (by decide))).trans (b6860 j hj).1, (fI_kept (x_lt hTH6831 kH6862 gaq (by decide))).trans (b6860 j hj).2⟩
          have b6873 : WF (fun k => fI H6862 oq k) (fun k => fI H6862 aq k) (3000 + mn.toNatClampNeg) (3000 + x6833.toNatClampNeg) 0 (cB (fun j => fI H6807 pq j) x6832.toNatClampNeg + 1) := WF.congr (fun j => fI_kept (x_lt hTH6831 kH6862 goq (by decide))) (fun j => fI_kept (x_lt hTH6831 kH6862 gaq (by decide))) m6847
          have m6874 := (m6850).trans (MF.i mf6869 (k := 19) (by decide) (by decide)).symm
          have m6875 := (m6851).trans (MF.i mf6869 (k := 20) (by decide) (by decide)).symm
          have m6876 := (m6852).trans (MF.i mf6869 (k := 21) (by decide) (by decide)).symm
          have m6877 := (m6853).trans (MF.i mf6869 (k := 22) (by decide) (by decide)).symm
          have m6878 := (m6835).trans (MF.r mf6869 (k := 32) (by decide) (by decide)).symm
          have m6879 := (m6836).trans (MF.r mf6869 (k := 33) (by decide) (by decide)).symm
          have m6880 := (m6837).trans (MF.r mf6869 (k := 37) (by decide) (by decide)).symm
          have m6881 := (m6857).trans (MF.i mf6869 (k := 18) (by decide) (by decide)).symm
          have m6882 := (m6858).trans (MF.i mf6869 (k := 34) (by decide) (by decide)).symm
          have m6883 := (ex6833).trans (MF.i mf6869 (k := 35) (by decide) (by decide)).symm
          have m6884 := (ex6834).trans (MF.i mf6869 (k := 36) (by decide) (by decide)).symm
          have mf6885 : MF K s.heap H6862 a0 [19, 20, 21, 22, 35, 36, 38, 39, 40] := MF.trans mf6859 mf6869 (by decide)
          have bx6863 := ty_fi (x := x6863) (k := 38) ex6863 hTH6862 ga0 rg_112 rfl
          refine W.eq (g2 := F0 m 130 ls6796 []) rfl ?_
          have cc_x6863 := i_cl (x := x6863) (by omega)
          have hwx := congrArg Int32.toInt m6870
          have pqn : PQ (fun j => fI H6862 pq j) (x6863.toNatClampNeg) (x6834.toInt) (x6402.toInt) (cB (fun j => fI H6807 pq j) x6832.toNatClampNeg + 1) (1) := PQ.push (v := 10) pqc (by show (fI _ pq _).toInt = 10; rw [← m6870]; rfl) m6871 (by omega) (Or.inr (Or.inr (Or.inl ⟨rfl, rfl, rfl, rfl, t10⟩)))
          refine lv_aload_n hx hb dX10_readAny_130 rfl (lv_at hl6797 0 rfl) ?_
          obtain ⟨q6886, eq6886⟩ : ∃ z : Nat, EQN z (fR H6862 a0 (K.1.2 10 17)) := ⟨_, rfl⟩
          have gq6886 := ty_fr (q := q6886) (k := 17) (u := 126) eq6886 hTH6862 ga0 rg_112 rfl
          replace eq6886 := EQN.mk eq6886
          refine x_V (As := []) (rest := []) C (a_X10_reads l K G H6862 (x6799) (x6800) (x6801) (x6802) (tp) hTH6862 ga0 gq6886 eq6886 m6874 m6875 m6876 m6877 m6881 g6865 g6866 g6867 g6868 (by and_intros <;> first | assumption | omega)) yo_X10_reads wM_X10_242 ⟨⟨by decide, by decide⟩, by decide, by decide⟩ (x_rv C hTH6862 (ci := 10) rfl ga0 rg_112) rfl hl6797.1 rfl (Nat.le_of_ble_eq_true rfl) dX10_readAny_131 hSH6862 (AE_sub (fun _ _ => rfl) (by decide) hSH6862.1) (fun vH6887 H6887 locsH6887 pH6887 zH6887 kH6887 hSH6887 => ?_)
          obtain ⟨x6888, x6889, x6890, x6891, hvH6887, ex6888, ex6889, ex6890, ex6891, hrH6887, m6892, g6893, g6894, g6895, g6896, mf6897, hTH6887⟩ := pH6887
          subst hvH6887
          clear zH6887
          replace m6892 := EQN.mk m6892
          have b6898 : ∀ j : Nat, j < 3000 + mn.toNatClampNeg → fI H6887 oq j = fI s.heap oq j ∧ fI H6887 aq j = fI s.heap aq j := fun j hj => ⟨(fI_kept (x_lt hTH6862 kH6887 goq (by decide))).trans (b6872 j hj).1, (fI_kept (x_lt hTH6862 kH6887 gaq (by decide))).trans (b6872 j hj).2⟩
          have b6899 : WF (fun k => fI H6887 oq k) (fun k => fI H6887 aq k) (3000 + mn.toNatClampNeg) (3000 + x6833.toNatClampNeg) 0 (cB (fun j => fI H6807 pq j) x6832.toNatClampNeg + 1) := WF.congr (fun j => fI_kept (x_lt hTH6862 kH6887 goq (by decide))) (fun j => fI_kept (x_lt hTH6862 kH6887 gaq (by decide))) b6873
          have b6900 : PQ (fun j => fI H6887 pq j) (x6863.toNatClampNeg) (x6834.toInt) (x6402.toInt) (cB (fun j => fI H6807 pq j) x6832.toNatClampNeg + 1) (1) := PQ.congr (fun j => fI_kept (x_lt hTH6862 kH6887 gpq (by decide))) pqn
          have m6901 := (m6878).trans (MF.r mf6897 (k := 32) (by decide) (by decide)).symm
          have m6902 := (m6879).trans (MF.r mf6897 (k := 33) (by decide) (by decide)).symm
          have m6903 := (m6864).trans (MF.r mf6897 (k := 37) (by decide) (by decide)).symm
          have m6904 := (m6881).trans (MF.i mf6897 (k := 18) (by decide) (by decide)).symm
          have m6905 := (m6882).trans (MF.i mf6897 (k := 34) (by decide) (by decide)).symm
          have m6906 := (m6883).trans (MF.i mf6897 (k := 35) (by decide) (by decide)).symm
          have m6907 := (m6884).trans (MF.i mf6897 (k := 36) (by decide) (by decide)).symm
          have m6908 := (ex6863).trans (MF.i mf6897 (k := 38) (by decide) (by decide)).symm
          have m6909 := (eq6886).trans (MF.r mf6897 (k := 17) (by decide) (by decide)).symm
          have mf6910 : MF K s.heap H6887 a0 [19, 20, 21, 22, 35, 36, 38, 39, 40] := MF.trans mf6885 mf6897 (by decide)
          have bx6888 := ty_fi (x := x6888) (k := 19) ex6888 hTH6887 ga0 rg_112 rfl
          have bx6889 := ty_fi (x := x6889) (k := 20) ex6889 hTH6887 ga0 rg_112 rfl
          have bx6890 := ty_fi (x := x6890) (k := 21) ex6890 hTH6887 ga0 rg_112 rfl
          have bx6891 := ty_fi (x := x6891) (k := 22) ex6891 hTH6887 ga0 rg_112 rfl
          obtain ⟨r1H6887, r2H6887, r3H6887, r4H6887, r5H6887, r6H6887, r7H6887⟩ := hrH6887
          refine W.eq (g2 := F0 m 134 ls6796 []) rfl ?_
          refine lv_iconst (v := 1) hx hb dX10_readAny_134 (by decide) ?_
          refine lv_istore_n (lv' := [(2, .int 1), (0, .ref a0), (1, .int x6402)]) hx hb dX10_readAny_135 rfl hl6797 (by decide) rfl (fun ls6911 hl6912 => ?_)
          refine lv_goto (tgt := 9) hx hb dX10_readAny_136 (by decide) ?_
          have cl_1 := i_cl (x := (1 : Int32)) (by omega)
          have ca_k1 : (1 : Int32).toNatClampNeg = 1 := rfl
          have hpb := b6900.2.2.2.1
          exact ih9 (cB (fun j => fI H6807 pq j) x6832.toNatClampNeg + 1) ls6911 H6887 locsH6887 (x6402) (1) (x6888) (x6889) (x6890) (x6891) (x6833) (x6834) (x6863) (lv_sub hl6912 [1, 2, 0] rfl) hTH6887 hSH6887 ⟨by have := i_rng x6402; omega, by have := i_rng x6402; omega⟩ (by decide) ⟨by have := i_rng x6888; omega, by have := i_rng x6888; omega⟩ ⟨by have := i_rng x6889; omega, by have := i_rng x6889; omega⟩ ⟨by have := i_rng x6833; omega, by have := i_rng x6833; omega⟩ ⟨by have := i_rng x6834; omega, by have := i_rng x6834; omega⟩ ⟨by have := i_rng x6863; omega, by have := i_rng x6863; omega⟩ ex6888 ex6889 ex6890 ex6891 m6906 m6907 m6908 m6901 m6902 m6903 m6904 m6905 b6898 (WF.castE b6899 (by omega) (by omega) (by omega)) (PQ.cast b6900 (by omega) (by omega) (by omega) (by omega) (by omega)) mf6910 g6893 g6894 g6895 g6896 (by omega) (by and_intros <;> first | assumption | omega) 
      have J88 : ∀ (ls6914 : Array Slot) (H6913 : Heap) (locsH6913 : List Loc) (x6916 : Int32) (x6917 : Int32) (x6918 : Int32) (x6919 : Int32) (x6920 : Int32) (x6921 : Int32) (x6922 : Int32), lv_has ls6914 4 [(0, .ref a0), (1, .int x6402)] → TY K G H6913 → va_S (AE G [112, 136, 137, 138] s.heap.size) s.heap H6913 locsH6913 → (0 ≤ x6916.toInt ∧ x6916.toInt ≤ 500) → (0 ≤ x6917.toInt ∧ x6917.toInt ≤ 500) → (0 ≤ x6920.toInt ∧ x6920.toInt ≤ 500) → (0 ≤ x6921.toInt ∧ x6921.toInt ≤ 8) → (0 ≤ x6922.toInt ∧ x6922.toInt ≤ 40) → (x6916 = fI H6913 a0 (K.1.2 10 19)) → (x6917 = fI H6913 a0 (K.1.2 10 20)) → (x6918 = fI H6913 a0 (K.1.2 10 21)) → (x6919 = fI H6913 a0 (K.1.2 10 22)) → (x6920 = fI H6913 a0 (K.1.2 10 35)) → (x6921 = fI H6913 a0 (K.1.2 10 36)) → (x6922 = fI H6913 a0 (K.1.2 10 38)) → (EQN oq (fR H6913 a0 (K.1.2 10 32))) → (EQN aq (fR H6913 a0 (K.1.2 10 33))) → (EQN pq (fR H6913 a0 (K.1.2 10 37))) → (tp = fI H6913 a0 (K.1.2 10 18)) → (jb = fI H6913 a0 (K.1.2 10 34)) → (∀ j : Nat, j < 3000 + mn.toNatClampNeg → fI H6913 oq j = fI s.heap oq j ∧ fI H6913 aq j = fI s.heap aq j) → (WF (fun k => fI H6913 oq k) (fun k => fI H6913 aq k) (3000 + mn.toNatClampNeg) (3000 + x6920.toNatClampNeg) 0 B) → (PQ (fun j => fI H6913 pq j) (x6922.toNatClampNeg) (x6921.toInt) (x6402.toInt) (B) (1)) → (MF K s.heap H6913 a0 [19, 20, 21, 22, 35, 36, 38, 39, 40]) → (CG (avw K H6913 a0)) → (TU (avw K H6913 a0) (svw K H6913 a0)) → (WD (avw K H6913 a0)) → (IM (avw K H6913 a0)) → ((x6916.toInt ≤ tp.toInt ∧ x6917.toInt ≤ x6916.toInt ∧ (x6918.toInt = 0 ∨ x6917.toInt < x6916.toInt) ∧ (x6918.toInt ≠ 2 ∨ (0 ≤ x6919.toInt ∧ x6919.toInt ≤ 23))) ∧ x6920.toInt + x6922.toInt + fr.toInt ≤ mn.toInt + x6917.toInt ∧ mn.toInt ≤ x6920.toInt ∧ fr.toInt ≤ x6917.toInt ∧ x6917.toInt = x6405.toInt) → W p l e ({ frames := 7, cells := 0, slots := 0, locals := 149 } : Room) s m (([.ref a0] : List Value).toArray) below meth c H6913 locsH6913 0 0 Q (F0 m 88 ls6914 []) := by
        intro ls6914 H6913 locsH6913 x6916 x6917 x6918 x6919 x6920 x6921 x6922 hl6915 hTH6913 hSH6913 bx6916 bx6917 bx6920 bx6921 bx6922 ex6916 ex6917 ex6918 ex6919 ex6920 ex6921 ex6922 cy6923_0 cy6923_1 cy6923_2 cy6923_3 cy6923_4 by6923_pf by6923_wf by6923_pq mfy6923 gy6923_CG gy6923_TU gy6923_WD gy6923_IM iv88
        clear i1 i2 i3 i4 i5 i6 i7
        obtain ⟨⟨i1, i2, i3, i4⟩, i5, i6, i7, i8⟩ := iv88
        refine lv_aload_n hx hb dX10_readAny_88 rfl (lv_at hl6915 0 rfl) ?_
        refine x_V (As := []) (rest := []) C (a_X10_readCompared l K G H6913 (x6916) (x6917) (x6918) (x6919) (x6920) (tp) (jb) hTH6913 ga0 goq cy6923_0 gaq cy6923_1 ex6916 ex6917 ex6918 ex6919 ex6920 cy6923_3 cy6923_4 gy6923_CG gy6923_TU gy6923_WD gy6923_IM (by and_intros <;> first | assumption | omega) (by and_intros <;> first | assumption | omega)) yo_X10_readCompared wM_X10_270 ⟨⟨by decide, by decide⟩, by decide, by decide⟩ (x_rv C hTH6913 (ci := 10) rfl ga0 rg_112) rfl hl6915.1 rfl (Nat.le_of_ble_eq_true rfl) dX10_readAny_89 hSH6913 (AE_sub (fun _ _ => rfl) (by decide) hSH6913.1) (fun vH6924 H6924 locsH6924 pH6924 zH6924 kH6924 hSH6924 => ?_)
        obtain ⟨x6925, x6926, x6927, x6928, x6929, x6930, hvH6924, bx6925, ex6926, ex6927, ex6928, ex6929, ex6930, hrH6924, m6931, m6932, g6933, g6934, g6935, g6936, mf6937, m6938, m6939, hTH6924⟩ := pH6924
        subst hvH6924
        clear zH6924
        replace m6931 := EQN.mk m6931
        replace m6932 := EQN.mk m6932
        have b6940 : PQ (fun j => fI H6924 pq j) (x6922.toNatClampNeg) (x6921.toInt) (x6402.toInt) (B) (1) := PQ.congr (fun j => fI_kept (x_lt hTH6913 kH6924 gpq (by decide))) by6923_pq
        have m6941 := (ex6921).trans (MF.i mf6937 (k := 36) (by decide) (by decide)).symm
        have m6942 := (ex6922).trans (MF.i mf6937 (k := 38) (by decide) (by decide)).symm
        have m6943 := (cy6923_0).trans (MF.r mf6937 (k := 32) (by decide) (by decide)).symm
        have m6944 := (cy6923_1).trans (MF.r mf6937 (k := 33) (by decide) (by decide)).symm
        have m6945 := (cy6923_2).trans (MF.r mf6937 (k := 37) (by decide) (by decide)).symm
        have m6946 := (cy6923_3).trans (MF.i mf6937 (k := 18) (by decide) (by decide)).symm
        have m6947 := (cy6923_4).trans (MF.i mf6937 (k := 34) (by decide) (by decide)).symm
        have mf6948 : MF K s.heap H6924 a0 [19, 20, 21, 22, 35, 36, 38, 39, 40] := MF.trans mfy6923 mf6937 (by decide)
        have bx6926 := ty_fi (x := x6926) (k := 19) ex6926 hTH6924 ga0 rg_112 rfl
        have bx6927 := ty_fi (x := x6927) (k := 20) ex6927 hTH6924 ga0 rg_112 rfl
        have bx6928 := ty_fi (x := x6928) (k := 21) ex6928 hTH6924 ga0 rg_112 rfl
        have bx6929 := ty_fi (x := x6929) (k := 22) ex6929 hTH6924 ga0 rg_112 rfl
        have bx6930 := ty_fi (x := x6930) (k := 35) ex6930 hTH6924 ga0 rg_112 rfl
        have csm6938 := i_cl (x := x6920) (by omega)
        have cs_mn := i_cl (x := mn) (by omega)
        have b6949 : ∀ j : Nat, j < 3000 + mn.toNatClampNeg → fI H6924 oq j = fI s.heap oq j ∧ fI H6924 aq j = fI s.heap aq j := fun j hj => ⟨(m6938 j (by omega)).1.trans (by6923_pf j hj).1, (m6938 j (by omega)).2.trans (by6923_pf j hj).2⟩
        have b6950 : WF (fun k => fI H6924 oq k) (fun k => fI H6924 aq k) (3000 + mn.toNatClampNeg) (3000 + x6920.toNatClampNeg) 0 B := WF.keep by6923_wf (fun j hj => (m6938 j (by omega)).1) (fun j hj => (m6938 j (by omega)).2)
        refine W.eq (g2 := F0 m 92 ls6914 [.int x6925]) rfl ?_
        refine lv_iconst (v := (-1)) hx hb dX10_readAny_92 (by decide) ?_
        refine lv_icmp_ne (tgt := 98) hx hb dX10_readAny_93 (by decide) (fun c6951 => ?_) (fun c6951 => ?_)
        · have k6952 := i_ne c6951
          replace hrH6924 := hrH6924.resolve_left (by omega)
          clear i3 i4
          obtain ⟨rz, r1, r2, r3, r4, r5, r6, r7⟩ := hrH6924
          have wu0 : WF (fun k => fI H6924 oq k) (fun k => fI H6924 aq k) (3000 + x6920.toNatClampNeg) (3000 + x6930.toNatClampNeg) 0 1 := by
            rcases m6939 with h | h
            · exfalso; omega
            · exact h
          refine lv_aload_n hx hb dX10_readAny_98 rfl (lv_at hl6915 0 rfl) ?_
          refine lv_bipush (v := 9) hx hb dX10_readAny_99 (by decide) ?_
          have cc_x6922 := i_cl (x := x6922) (by omega)
          have cc_x6930 := i_cl (x := x6930) (by omega)
          have pqc : PQ (fun j => fI H6924 pq j) (x6922.toNatClampNeg) (x6921.toInt) (x6402.toInt) (B) (1) := PQ.cast b6940 (by omega) (by omega) rfl rfl rfl
          have hcb := pqc.2.2.2.1
          have hco := pqc.2.1
          have hck := pqc.2.2.1
          have wct : WF (fun k => fI H6924 oq k) (fun k => fI H6924 aq k) (3000 + mn.toNatClampNeg) (3000 + x6930.toNatClampNeg) 0 (1 + B) := WF.cat (WF.castE (E' := 0 + B) b6950 rfl (z' := 3000 + x6920.toNatClampNeg) (by omega) (by omega)) (WF.lift B wu0) (by omega) (by omega)
          refine x_V (As := [.int 9]) (rest := []) C (a_X10_settles l K G H6924 (9) (mn) (x6922) (x6930) (x6921) hTH6924 ga0 (by decide) goq m6931 gaq m6932 gpq m6945 m6942 ex6930 m6941 g6933 g6934 g6935 g6936 (WF.castE wct (by omega) (by omega) (by omega)) (by and_intros <;> first | assumption | omega) (by and_intros <;> first | assumption | omega) (pqc.1) (pqc.2.1)) yo_X10_settles wM_X10_273 ⟨⟨by decide, by decide⟩, by decide, by decide⟩ (x_rv C hTH6924 (ci := 10) rfl ga0 rg_112) rfl hl6915.1 rfl (Nat.le_of_ble_eq_true rfl) dX10_readAny_101 hSH6924 (AE_sub (fun _ _ => rfl) (by decide) hSH6924.1) (fun vH6953 H6953 locsH6953 pH6953 zH6953 kH6953 hSH6953 => ?_)
          obtain ⟨x6954, x6955, x6956, hvH6953, ex6954, ex6955, ex6956, hrH6953, m6957, m6958, m6959, g6960, g6961, g6962, g6963, mf6964, m6965, m6966, m6967, m6968, m6969, m6970, hTH6953⟩ := pH6953
          subst hvH6953
          clear zH6953
          replace m6957 := EQN.mk m6957
          replace m6958 := EQN.mk m6958
          replace m6959 := EQN.mk m6959
          have b6971 : PQ (fun j => fI H6953 pq j) (x6922.toNatClampNeg) (x6921.toInt) (x6402.toInt) (B) (1) := PQ.congr (fun j => fI_kept (x_lt hTH6924 kH6953 gpq (by decide))) pqc
          have m6972 := (m6931).trans (MF.r mf6964 (k := 32) (by decide) (by decide)).symm
          have m6973 := (m6932).trans (MF.r mf6964 (k := 33) (by decide) (by decide)).symm
          have m6974 := (m6945).trans (MF.r mf6964 (k := 37) (by decide) (by decide)).symm
          have m6975 := (m6946).trans (MF.i mf6964 (k := 18) (by decide) (by decide)).symm
          have m6976 := (m6947).trans (MF.i mf6964 (k := 34) (by decide) (by decide)).symm
          have m6977 := (ex6926).trans (MF.i mf6964 (k := 19) (by decide) (by decide)).symm
          have m6978 := (ex6927).trans (MF.i mf6964 (k := 20) (by decide) (by decide)).symm
          have m6979 := (ex6928).trans (MF.i mf6964 (k := 21) (by decide) (by decide)).symm
          have m6980 := (ex6929).trans (MF.i mf6964 (k := 22) (by decide) (by decide)).symm
          have mf6981 : MF K s.heap H6953 a0 [19, 20, 21, 22, 35, 36, 38, 39, 40] := MF.trans mf6948 mf6964 (by decide)
          have bx6954 := ty_fi (x := x6954) (k := 38) ex6954 hTH6953 ga0 rg_112 rfl
          have bx6955 := ty_fi (x := x6955) (k := 35) ex6955 hTH6953 ga0 rg_112 rfl
          have bx6956 := ty_fi (x := x6956) (k := 36) ex6956 hTH6953 ga0 rg_112 rfl
          obtain ⟨raH6953, rbH6953, rcH6953⟩ := hrH6953
          replace rcH6953 := rcH6953.resolve_right (fun h => h.1 n_9)
          replace m6968 := HD.mk m6968
          replace m6970 := HD.mk m6970
          have b6982 : ∀ j : Nat, j < 3000 + mn.toNatClampNeg → fI H6953 oq j = fI s.heap oq j ∧ fI H6953 aq j = fI s.heap aq j := fun j hj => ⟨(m6965 j (by omega)).1.trans (b6949 j hj).1, (m6965 j (by omega)).2.trans (b6949 j hj).2⟩
          have b6983 : WF (fun k => fI H6953 oq k) (fun k => fI H6953 aq k) (3000 + mn.toNatClampNeg) (3000 + x6930.toNatClampNeg) 0 (1 + B) := WF.keep wct (fun j hj => (m6965 j (by omega)).1) (fun j hj => (m6965 j (by omega)).2)
          refine W.eq (g2 := F0 m 104 ls6914 []) rfl ?_
          have cc_x6954 := i_cl (x := x6954) (by omega)
          have cc_x6955 := i_cl (x := x6955) (by omega)
          have eqp : ∀ j : Nat, fI H6953 pq j = fI H6924 pq j := fun j => fI_kept (x_lt hTH6924 kH6953 gpq (by decide))
          have pq0 : PQ (fun j => fI H6924 pq j) (x6954.toNatClampNeg) (x6956.toInt) (x6402.toInt) (cB (fun j => fI H6924 pq j) x6954.toNatClampNeg) 0 := PQ.settle (w := 9) pqc (by omega) m6966 m6967 (by decide) ((m6968.out).imp (fun h => by omega) (fun h => by show (fI _ pq _).toInt ≠ 9; rw [n_9] at h; exact h)) ((m6970.out).imp (fun h => by omega) (fun h => by show (fI _ pq _).toInt = 9; rw [n_9] at h; exact h)) (Or.inl rfl)
          have pqn : PQ (fun j => fI H6953 pq j) (x6954.toNatClampNeg) (x6956.toInt) (x6402.toInt) (cB (fun j => fI H6924 pq j) x6954.toNatClampNeg) (0) := PQ.congr eqp pq0
          refine lv_iconst (v := 0) hx hb dX10_readAny_104 (by decide) ?_
          refine lv_istore_n (lv' := [(2, .int 0), (0, .ref a0), (1, .int x6402)]) hx hb dX10_readAny_105 rfl hl6915 (by decide) rfl (fun ls6984 hl6985 => ?_)
          refine lv_goto (tgt := 9) hx hb dX10_readAny_106 (by decide) ?_
          have cl_0 := i_cl (x := (0 : Int32)) (by omega)
          have ca_k0 : (0 : Int32).toNatClampNeg = 0 := rfl
          have hpb := pqn.2.2.2.1
          exact ih9 (cB (fun j => fI H6924 pq j) x6954.toNatClampNeg) ls6984 H6953 locsH6953 (x6402) (0) (x6926) (x6927) (x6928) (x6929) (x6955) (x6956) (x6954) (lv_sub hl6985 [1, 2, 0] rfl) hTH6953 hSH6953 ⟨by have := i_rng x6402; omega, by have := i_rng x6402; omega⟩ (by decide) ⟨by have := i_rng x6926; omega, by have := i_rng x6926; omega⟩ ⟨by have := i_rng x6927; omega, by have := i_rng x6927; omega⟩ ⟨by have := i_rng x6955; omega, by have := i_rng x6955; omega⟩ ⟨by have := i_rng x6956; omega, by have := i_rng x6956; omega⟩ ⟨by have := i_rng x6954; omega, by have := i_rng x6954; omega⟩ m6977 m6978 m6979 m6980 ex6955 ex6956 ex6954 m6957 m6958 m6959 m6975 m6976 b6982 (WF.castE m6969 (by omega) (by omega) (by omega)) (PQ.cast pqn (by omega) (by omega) (by omega) (by omega) (by omega)) mf6981 g6960 g6961 g6962 g6963 (by omega) (by and_intros <;> first | assumption | omega) 
        · have k6952 := i_eq c6951
          refine lv_iconst (v := (-1)) hx hb dX10_readAny_96 (by decide) ?_
          exact x_iret C hQ dX10_readAny_97 hSH6924 (by decide) (by decide) (⟨(-1), x6926, x6927, x6928, x6929, x6930, x6921, x6922, rfl, by decide, ex6926, ex6927, ex6928, ex6929, ex6930, m6941, m6942, Or.inl (by omega), m6931, m6932, m6945, g6933, g6934, g6935, g6936, mf6948, b6949, Or.inl (by omega), hTH6924⟩)
      refine lv_iload_n hx hb dX10_readAny_9 rfl (lv_at hl6401 2 rfl) ?_
      refine lv_if_eq (tgt := 109) hx hb dX10_readAny_10 (by decide) (fun c6986 => ?_) (fun c6986 => ?_)
      · have k6987 := i_eq c6986
        have cl_mn := i_cl (x := mn) (by omega)
        have cl_x6408 := i_cl (x := x6408) (by omega)
        have cl_x6410 := i_cl (x := x6410) (by omega)
        exact J109 ls6400 H6399 locsH6399 (x6404) (x6405) (x6406) (x6407) (x6408) (x6409) (x6410) (lv_sub hl6401 [0, 1, 2] rfl) hTH6399 hSH6399 ⟨by have := i_rng x6403; omega, by have := i_rng x6403; omega⟩ ⟨by have := i_rng x6404; omega, by have := i_rng x6404; omega⟩ ⟨by have := i_rng x6405; omega, by have := i_rng x6405; omega⟩ ⟨by have := i_rng x6408; omega, by have := i_rng x6408; omega⟩ ⟨by have := i_rng x6409; omega, by have := i_rng x6409; omega⟩ ⟨by have := i_rng x6410; omega, by have := i_rng x6410; omega⟩ ex6404 ex6405 ex6406 ex6407 ex6408 ex6409 ex6410 cy6411_0 cy6411_1 cy6411_2 cy6411_3 cy6411_4 by6411_pf (WF.castE by6411_wf (by omega) (by omega) (by omega)) (PQ.cast by6411_pq (by omega) (by omega) (by omega) (by omega) (by omega)) mfy6411 gy6411_CG gy6411_TU gy6411_WD gy6411_IM (by and_intros <;> first | assumption | omega)
      · have k6987 := i_ne c6986
        refine lv_aload_n hx hb dX10_readAny_13 rfl (lv_at hl6401 0 rfl) ?_
        refine lv_bipush (v := 9) hx hb dX10_readAny_14 (by decide) ?_
        refine x_V (As := [.int 9]) (rest := []) C (a_X10_isWord l K G H6399 (9) (x6406) (x6407) hTH6399 ga0 ex6406 ex6407) yo_X10_isWord wM_X10_264 ⟨⟨by decide, by decide⟩, by decide, by decide⟩ (x_rv C hTH6399 (ci := 10) rfl ga0 rg_112) rfl hl6401.1 rfl (Nat.le_of_ble_eq_true rfl) dX10_readAny_16 hSH6399 (AE_sub (fun _ _ => rfl) (by decide) hSH6399.1) (fun vH6988 H6988 locsH6988 pH6988 zH6988 kH6988 hSH6988 => ?_)
        obtain ⟨x6989, hvH6988, bx6989, hrH6988, hTH6988⟩ := pH6988
        subst hvH6988
        clear zH6988
        have mf6990 : MF K s.heap H6988 a0 [19, 20, 21, 22, 35, 36, 38, 39, 40] := MF.eff (x_lt hTH6399 kH6988 ga0 (by decide)) mfy6411
        have b6991 : ∀ j : Nat, j < 3000 + mn.toNatClampNeg → fI H6988 oq j = fI s.heap oq j ∧ fI H6988 aq j = fI s.heap aq j := fun j hj => ⟨(fI_kept (x_lt hTH6399 kH6988 goq (by decide))).trans (by6411_pf j hj).1, (fI_kept (x_lt hTH6399 kH6988 gaq (by decide))).trans (by6411_pf j hj).2⟩
        have b6992 : WF (fun k => fI H6988 oq k) (fun k => fI H6988 aq k) (3000 + mn.toNatClampNeg) (3000 + x6408.toNatClampNeg) 0 (B + 1 - x6403.toNatClampNeg) := WF.congr (fun j => fI_kept (x_lt hTH6399 kH6988 goq (by decide))) (fun j => fI_kept (x_lt hTH6399 kH6988 gaq (by decide))) by6411_wf
        have b6993 : PQ (fun j => fI H6988 pq j) (x6410.toNatClampNeg) (x6409.toInt) (x6402.toInt) (B) (x6403.toInt) := PQ.congr (fun j => fI_kept (x_lt hTH6399 kH6988 gpq (by decide))) by6411_pq
        have g6994 : CG (avw K H6988 a0) := CG.congr (fun k hk j => av_eff hTH6399 kH6988 ga0 (by decide) (CG_eff [] (by decide) k hk)) gy6411_CG
        have g6995 : TU (avw K H6988 a0) (svw K H6988 a0) := TU.congr (fun k hk j => av_eff hTH6399 kH6988 ga0 (by decide) (TU_eff [] (by decide) k hk)) (fun k hk => sv_eff hTH6399 kH6988 ga0 (by decide)) gy6411_TU
        have g6996 : WD (avw K H6988 a0) := WD.congr (fun k hk j => av_eff hTH6399 kH6988 ga0 (by decide) (WD_eff [] (by decide) k hk)) gy6411_WD
        have g6997 : IM (avw K H6988 a0) := IM.congr (fun k hk j => av_eff hTH6399 kH6988 ga0 (by decide) (IM_eff [] (by decide) k hk)) gy6411_IM
        have m6998 := (ex6404).trans (fI_kept (x_lt hTH6399 kH6988 ga0 (by decide))).symm
        have m6999 := (ex6405).trans (fI_kept (x_lt hTH6399 kH6988 ga0 (by decide))).symm
        have m7000 := (ex6406).trans (fI_kept (x_lt hTH6399 kH6988 ga0 (by decide))).symm
        have m7001 := (ex6407).trans (fI_kept (x_lt hTH6399 kH6988 ga0 (by decide))).symm
        have m7002 := (ex6408).trans (fI_kept (x_lt hTH6399 kH6988 ga0 (by decide))).symm
        have m7003 := (ex6409).trans (fI_kept (x_lt hTH6399 kH6988 ga0 (by decide))).symm
        have m7004 := (ex6410).trans (fI_kept (x_lt hTH6399 kH6988 ga0 (by decide))).symm
        have m7005 := (cy6411_0).trans (fR_kept (x_lt hTH6399 kH6988 ga0 (by decide))).symm
        have m7006 := (cy6411_1).trans (fR_kept (x_lt hTH6399 kH6988 ga0 (by decide))).symm
        have m7007 := (cy6411_2).trans (fR_kept (x_lt hTH6399 kH6988 ga0 (by decide))).symm
        have m7008 := (cy6411_3).trans (fI_kept (x_lt hTH6399 kH6988 ga0 (by decide))).symm
        have m7009 := (cy6411_4).trans (fI_kept (x_lt hTH6399 kH6988 ga0 (by decide))).symm
        refine W.eq (g2 := F0 m 19 ls6400 [.int x6989]) rfl ?_
        refine lv_istore_n (lv' := [(3, .int x6989), (0, .ref a0), (1, .int x6402), (2, .int x6403)]) hx hb dX10_readAny_19 rfl hl6401 (by decide) rfl (fun ls7010 hl7011 => ?_)
        refine lv_iload_n hx hb dX10_readAny_20 rfl (lv_at hl7011 0 rfl) ?_
        refine lv_if_ne (tgt := 33) hx hb dX10_readAny_21 (by decide) (fun c7012 => ?_) (fun c7012 => ?_)
        · have k7013 := i_ne c7012
          replace hrH6988 := hrH6988.resolve_left (by omega)
          replace i3 := i3.resolve_left (by omega)
          clear i4
          refine lv_aload_n hx hb dX10_readAny_33 rfl (lv_at hl7011 1 rfl) ?_
          refine x_gi C hTH6988 (ci := 10) (k := 36) rfl inX10 (by decide) wF_X10_261 ga0 rg_112 rfl dX10_readAny_34 (fun x7014 ex7014 bx7014 => ?_)
          have ux7014 : x6409 = x7014 := (m7003).trans ex7014.symm
          subst ux7014
          refine lv_bipush (v := 8) hx hb dX10_readAny_37 (by decide) ?_
          refine lv_icmp_ne (tgt := 48) hx hb dX10_readAny_39 (by decide) (fun c7015 => ?_) (fun c7015 => ?_)
          · have k7016 := i_ne c7015
            refine lv_aload_n hx hb dX10_readAny_48 rfl (lv_at hl7011 1 rfl) ?_
            refine lv_aload_n hx hb dX10_readAny_49 rfl (lv_at hl7011 1 rfl) ?_
            refine x_gi C hTH6988 (ci := 10) (k := 36) rfl inX10 (by decide) wF_X10_261 ga0 rg_112 rfl dX10_readAny_50 (fun x7017 ex7017 bx7017 => ?_)
            have ux7017 : x6409 = x7017 := (m7003).trans ex7017.symm
            subst ux7017
            refine lv_iconst (v := 1) hx hb dX10_readAny_53 (by decide) ?_
            refine lv_iadd hx hb dX10_readAny_54 ?_
            refine lv_topi (fun x7018 ex7018 => ?_)
            have tx7018 := i_add ex7018 (by omega)
            refine x_put C hTH6988 hSH6988 (ci := 10) (k := 36) (v := .int x7018) (ty0 := tyX10) rfl inX10 tyX10_ok nmX10 (by decide) rfl wF_X10_261 ga0 rg_112 rfl rfl (okI (by have := i_rng x7018; omega) (by have := i_rng x7018; omega)) rfl rfl (AE_in ga0 (by decide)) dX10_readAny_55 (fun H7019 locsH7019 hTH7019 hSH7019 wH7019 => ?_)
            have mf7020 : MF K s.heap H7019 a0 [19, 20, 21, 22, 35, 36, 38, 39, 40] := MF.fld hap wH7019 (by decide) (by decide) mf6990
            have g7021 : CG (avw K H7019 a0) := CG.congr (fun k hk j => av_fld hTH6988 ga0 hap wH7019 (by decide) (CG_ok 112 (by decide) k hk) (CG_ne 36 (by decide) k hk)) g6994
            have g7022 : TU (avw K H7019 a0) (svw K H7019 a0) := TU.congr (fun k hk j => av_fld hTH6988 ga0 hap wH7019 (by decide) (TU_ok 112 (by decide) k hk) (TU_ne 36 (by decide) k hk)) (fun k hk => sv_fld hap wH7019 (by decide) (TU_slt k hk) (TU_sne 36 (by decide) k hk)) g6995
            have g7023 : WD (avw K H7019 a0) := WD.congr (fun k hk j => av_fld hTH6988 ga0 hap wH7019 (by decide) (WD_ok 112 (by decide) k hk) (WD_ne 36 (by decide) k hk)) g6996
            have g7024 : IM (avw K H7019 a0) := IM.congr (fun k hk j => av_fld hTH6988 ga0 hap wH7019 (by decide) (IM_ok 112 (by decide) k hk) (IM_ne 36 (by decide) k hk)) g6997
            have b7025 : ∀ j : Nat, j < 3000 + mn.toNatClampNeg → fI H7019 oq j = fI s.heap oq j ∧ fI H7019 aq j = fI s.heap aq j := fun j hj => ⟨(Wr.neI wH7019 (Or.inl (G_ne goq ga0 (by decide)))).trans (b6991 j hj).1, (Wr.neI wH7019 (Or.inl (G_ne gaq ga0 (by decide)))).trans (b6991 j hj).2⟩
            have b7026 : WF (fun k => fI H7019 oq k) (fun k => fI H7019 aq k) (3000 + mn.toNatClampNeg) (3000 + x6408.toNatClampNeg) 0 (B + 1 - x6403.toNatClampNeg) := WF.congr (fun j => Wr.neI wH7019 (Or.inl (G_ne goq ga0 (by decide)))) (fun j => Wr.neI wH7019 (Or.inl (G_ne gaq ga0 (by decide)))) b6992
            have b7027 : PQ (fun j => fI H7019 pq j) (x6410.toNatClampNeg) (x6409.toInt) (x6402.toInt) (B) (x6403.toInt) := PQ.congr (fun j => Wr.neI wH7019 (Or.inl (G_ne gpq ga0 (by decide)))) b6993
            have m7028 := m6998.trans (Wr.neI wH7019 (Or.inr (x_apart hKT hts inX10 tyX10 tyX10_ok nmX10 rfl 19 36 (by decide) (by decide) (by decide)))).symm
            have m7029 := m6999.trans (Wr.neI wH7019 (Or.inr (x_apart hKT hts inX10 tyX10 tyX10_ok nmX10 rfl 20 36 (by decide) (by decide) (by decide)))).symm
            have m7030 := m7000.trans (Wr.neI wH7019 (Or.inr (x_apart hKT hts inX10 tyX10 tyX10_ok nmX10 rfl 21 36 (by decide) (by decide) (by decide)))).symm
            have m7031 := m7001.trans (Wr.neI wH7019 (Or.inr (x_apart hKT hts inX10 tyX10 tyX10_ok nmX10 rfl 22 36 (by decide) (by decide) (by decide)))).symm
            have m7032 := m7002.trans (Wr.neI wH7019 (Or.inr (x_apart hKT hts inX10 tyX10 tyX10_ok nmX10 rfl 35 36 (by decide) (by decide) (by decide)))).symm
            have m7034 := m7004.trans (Wr.neI wH7019 (Or.inr (x_apart hKT hts inX10 tyX10 tyX10_ok nmX10 rfl 38 36 (by decide) (by decide) (by decide)))).symm
            have m7035 := m7005.trans (Wr.neR wH7019 (Or.inr (x_apart hKT hts inX10 tyX10 tyX10_ok nmX10 rfl 32 36 (by decide) (by decide) (by decide)))).symm
            have m7036 := m7006.trans (Wr.neR wH7019 (Or.inr (x_apart hKT hts inX10 tyX10 tyX10_ok nmX10 rfl 33 36 (by decide) (by decide) (by decide)))).symm
            have m7037 := m7007.trans (Wr.neR wH7019 (Or.inr (x_apart hKT hts inX10 tyX10 tyX10_ok nmX10 rfl 37 36 (by decide) (by decide) (by decide)))).symm
            have m7038 := m7008.trans (Wr.neI wH7019 (Or.inr (x_apart hKT hts inX10 tyX10 tyX10_ok nmX10 rfl 18 36 (by decide) (by decide) (by decide)))).symm
            have m7039 := m7009.trans (Wr.neI wH7019 (Or.inr (x_apart hKT hts inX10 tyX10 tyX10_ok nmX10 rfl 34 36 (by decide) (by decide) (by decide)))).symm
            have m7040 := Wr.I wH7019
            have m7040 := m7040.symm
            refine lv_iload_n hx hb dX10_readAny_58 rfl (lv_at hl7011 0 rfl) ?_
            refine lv_if_ne (tgt := 66) hx hb dX10_readAny_59 (by decide) (fun c7041 => ?_) (fun c7041 => ?_)
            · have k7042 := i_ne c7041
              refine lv_aload_n hx hb dX10_readAny_66 rfl (lv_at hl7011 1 rfl) ?_
              refine lv_iload_n hx hb dX10_readAny_67 rfl (lv_at hl7011 0 rfl) ?_
              refine lv_if_eq (tgt := 76) hx hb dX10_readAny_68 (by decide) (fun c7043 => ?_) (fun c7043 => ?_)
              · have k7044 := i_eq c7043
                exfalso
                omega
              · have k7044 := i_ne c7043
                refine lv_bipush (v := 9) hx hb dX10_readAny_71 (by decide) ?_
                refine lv_goto (tgt := 78) hx hb dX10_readAny_73 (by decide) ?_
                have cc_x6410 := i_cl (x := x6410) (by omega)
                have cc_x6408 := i_cl (x := x6408) (by omega)
                have pqc : PQ (fun j => fI H7019 pq j) (x6410.toNatClampNeg) (x6409.toInt) (x6402.toInt) (B) (x6403.toInt) := PQ.cast b7027 (by omega) (by omega) rfl rfl rfl
                have hcb := pqc.2.2.2.1
                have hco := pqc.2.1
                have hck := pqc.2.2.1
                have h26 := PD.n26 pqc.1 (by omega)
                refine x_V (As := [.int 9]) (rest := []) C (a_X10_waits l K G H7019 (9) (x6410) hTH7019 ga0 gpq m7037 m7034 g7021 g7022 g7023 g7024 (by and_intros <;> first | assumption | omega)) yo_X10_waits wM_X10_267 ⟨⟨by decide, by decide⟩, by decide, by decide⟩ (x_rv C hTH7019 (ci := 10) rfl ga0 rg_112) rfl hl7011.1 rfl (Nat.le_of_ble_eq_true rfl) dX10_readAny_78 hSH7019 (AE_sub (fun _ _ => rfl) (by decide) hSH7019.1) (fun vH7045 H7045 locsH7045 pH7045 zH7045 kH7045 hSH7045 => ?_)
                obtain ⟨x7046, hvH7045, ex7046, hrH7045, m7047, g7048, g7049, g7050, g7051, mf7052, m7053, m7054, hTH7045⟩ := pH7045
                subst hvH7045
                clear zH7045
                replace m7047 := EQN.mk m7047
                have b7055 : ∀ j : Nat, j < 3000 + mn.toNatClampNeg → fI H7045 oq j = fI s.heap oq j ∧ fI H7045 aq j = fI s.heap aq j := fun j hj => ⟨(fI_kept (x_lt hTH7019 kH7045 goq (by decide))).trans (b7025 j hj).1, (fI_kept (x_lt hTH7019 kH7045 gaq (by decide))).trans (b7025 j hj).2⟩
                have b7056 : WF (fun k => fI H7045 oq k) (fun k => fI H7045 aq k) (3000 + mn.toNatClampNeg) (3000 + x6408.toNatClampNeg) 0 (B + 1 - x6403.toNatClampNeg) := WF.congr (fun j => fI_kept (x_lt hTH7019 kH7045 goq (by decide))) (fun j => fI_kept (x_lt hTH7019 kH7045 gaq (by decide))) b7026
                have m7057 := (m7028).trans (MF.i mf7052 (k := 19) (by decide) (by decide)).symm
                have m7058 := (m7029).trans (MF.i mf7052 (k := 20) (by decide) (by decide)).symm
                have m7059 := (m7030).trans (MF.i mf7052 (k := 21) (by decide) (by decide)).symm
                have m7060 := (m7031).trans (MF.i mf7052 (k := 22) (by decide) (by decide)).symm
                have m7061 := (m7032).trans (MF.i mf7052 (k := 35) (by decide) (by decide)).symm
                have m7062 := (m7035).trans (MF.r mf7052 (k := 32) (by decide) (by decide)).symm
                have m7063 := (m7036).trans (MF.r mf7052 (k := 33) (by decide) (by decide)).symm
                have m7064 := (m7037).trans (MF.r mf7052 (k := 37) (by decide) (by decide)).symm
                have m7065 := (m7038).trans (MF.i mf7052 (k := 18) (by decide) (by decide)).symm
                have m7066 := (m7039).trans (MF.i mf7052 (k := 34) (by decide) (by decide)).symm
                have m7067 := (m7040).trans (MF.i mf7052 (k := 36) (by decide) (by decide)).symm
                have mf7068 : MF K s.heap H7045 a0 [19, 20, 21, 22, 35, 36, 38, 39, 40] := MF.trans mf7020 mf7052 (by decide)
                have bx7046 := ty_fi (x := x7046) (k := 38) ex7046 hTH7045 ga0 rg_112 rfl
                refine W.eq (g2 := F0 m 81 ls7010 []) rfl ?_
                have cc_x7046 := i_cl (x := x7046) (by omega)
                have hwx := congrArg Int32.toInt m7053
                have pqn : PQ (fun j => fI H7045 pq j) (x7046.toNatClampNeg) (x6409.toInt + 1) (x6402.toInt) (B) (1) := PQ.push (v := 9) pqc (by show (fI _ pq _).toInt = 9; rw [← m7053]; rfl) m7054 (by omega) (Or.inl ⟨rfl, rfl, rfl, rfl⟩)
                have hkl := cK_le (f := fun j => fI H7045 pq j) (x7046.toNatClampNeg)
                have hkc := pqn.2.2.1
                have hkd := pqn.2.1
                refine lv_aload_n hx hb dX10_readAny_81 rfl (lv_at hl7011 1 rfl) ?_
                obtain ⟨q7069, eq7069⟩ : ∃ z : Nat, EQN z (fR H7045 a0 (K.1.2 10 17)) := ⟨_, rfl⟩
                have gq7069 := ty_fr (q := q7069) (k := 17) (u := 126) eq7069 hTH7045 ga0 rg_112 rfl
                replace eq7069 := EQN.mk eq7069
                refine x_V (As := []) (rest := []) C (a_X10_reads l K G H7045 (x6404) (x6405) (x6406) (x6407) (tp) hTH7045 ga0 gq7069 eq7069 m7057 m7058 m7059 m7060 m7065 g7048 g7049 g7050 g7051 (by and_intros <;> first | assumption | omega)) yo_X10_reads wM_X10_242 ⟨⟨by decide, by decide⟩, by decide, by decide⟩ (x_rv C hTH7045 (ci := 10) rfl ga0 rg_112) rfl hl7011.1 rfl (Nat.le_of_ble_eq_true rfl) dX10_readAny_82 hSH7045 (AE_sub (fun _ _ => rfl) (by decide) hSH7045.1) (fun vH7070 H7070 locsH7070 pH7070 zH7070 kH7070 hSH7070 => ?_)
                obtain ⟨x7071, x7072, x7073, x7074, hvH7070, ex7071, ex7072, ex7073, ex7074, hrH7070, m7075, g7076, g7077, g7078, g7079, mf7080, hTH7070⟩ := pH7070
                subst hvH7070
                clear zH7070
                replace m7075 := EQN.mk m7075
                have b7081 : ∀ j : Nat, j < 3000 + mn.toNatClampNeg → fI H7070 oq j = fI s.heap oq j ∧ fI H7070 aq j = fI s.heap aq j := fun j hj => ⟨(fI_kept (x_lt hTH7045 kH7070 goq (by decide))).trans (b7055 j hj).1, (fI_kept (x_lt hTH7045 kH7070 gaq (by decide))).trans (b7055 j hj).2⟩
                have b7082 : WF (fun k => fI H7070 oq k) (fun k => fI H7070 aq k) (3000 + mn.toNatClampNeg) (3000 + x6408.toNatClampNeg) 0 (B + 1 - x6403.toNatClampNeg) := WF.congr (fun j => fI_kept (x_lt hTH7045 kH7070 goq (by decide))) (fun j => fI_kept (x_lt hTH7045 kH7070 gaq (by decide))) b7056
                have b7083 : PQ (fun j => fI H7070 pq j) (x7046.toNatClampNeg) (x6409.toInt + 1) (x6402.toInt) (B) (1) := PQ.congr (fun j => fI_kept (x_lt hTH7045 kH7070 gpq (by decide))) pqn
                have m7084 := (m7061).trans (MF.i mf7080 (k := 35) (by decide) (by decide)).symm
                have m7085 := (m7062).trans (MF.r mf7080 (k := 32) (by decide) (by decide)).symm
                have m7086 := (m7063).trans (MF.r mf7080 (k := 33) (by decide) (by decide)).symm
                have m7087 := (m7047).trans (MF.r mf7080 (k := 37) (by decide) (by decide)).symm
                have m7088 := (m7065).trans (MF.i mf7080 (k := 18) (by decide) (by decide)).symm
                have m7089 := (m7066).trans (MF.i mf7080 (k := 34) (by decide) (by decide)).symm
                have m7090 := (m7067).trans (MF.i mf7080 (k := 36) (by decide) (by decide)).symm
                have m7091 := (ex7046).trans (MF.i mf7080 (k := 38) (by decide) (by decide)).symm
                have m7092 := (eq7069).trans (MF.r mf7080 (k := 17) (by decide) (by decide)).symm
                have mf7093 : MF K s.heap H7070 a0 [19, 20, 21, 22, 35, 36, 38, 39, 40] := MF.trans mf7068 mf7080 (by decide)
                have bx7071 := ty_fi (x := x7071) (k := 19) ex7071 hTH7070 ga0 rg_112 rfl
                have bx7072 := ty_fi (x := x7072) (k := 20) ex7072 hTH7070 ga0 rg_112 rfl
                have bx7073 := ty_fi (x := x7073) (k := 21) ex7073 hTH7070 ga0 rg_112 rfl
                have bx7074 := ty_fi (x := x7074) (k := 22) ex7074 hTH7070 ga0 rg_112 rfl
                obtain ⟨r1H7070, r2H7070, r3H7070, r4H7070, r5H7070, r6H7070, r7H7070⟩ := hrH7070
                refine W.eq (g2 := F0 m 85 ls7010 []) rfl ?_
                refine lv_goto (tgt := 9) hx hb dX10_readAny_85 (by decide) ?_
                have cl_mn := i_cl (x := mn) (by omega)
                have hpb := b7083.2.2.2.1
                exact ih9 (B) ls7010 H7070 locsH7070 (x6402) (x6403) (x7071) (x7072) (x7073) (x7074) (x6408) (x7018) (x7046) (lv_sub hl7011 [1, 2, 3] rfl) hTH7070 hSH7070 ⟨by have := i_rng x6402; omega, by have := i_rng x6402; omega⟩ ⟨by have := i_rng x6403; omega, by have := i_rng x6403; omega⟩ ⟨by have := i_rng x7071; omega, by have := i_rng x7071; omega⟩ ⟨by have := i_rng x7072; omega, by have := i_rng x7072; omega⟩ ⟨by have := i_rng x6408; omega, by have := i_rng x6408; omega⟩ ⟨by have := i_rng x7018; omega, by have := i_rng x7018; omega⟩ ⟨by have := i_rng x7046; omega, by have := i_rng x7046; omega⟩ ex7071 ex7072 ex7073 ex7074 m7084 m7090 m7091 m7085 m7086 m7087 m7088 m7089 b7081 (WF.castE b7082 (by omega) (by omega) (by omega)) (PQ.cast b7083 (by omega) (by omega) (by omega) (by omega) (by omega)) mf7093 g7076 g7077 g7078 g7079 (by omega) (by and_intros <;> first | assumption | omega) 
            · have k7042 := i_eq c7041
              exfalso
              omega
          · have k7016 := i_eq c7015
            refine lv_aload_n hx hb dX10_readAny_42 rfl (lv_at hl7011 1 rfl) ?_
            refine lv_iconst (v := 3) hx hb dX10_readAny_43 (by decide) ?_
            refine x_V (As := [.int 3]) (rest := []) C (a_X10_fails l K G H6988 (3) hTH6988 ga0 g6994 g6995 g6996 g6997) yo_X10_fails wM_X10_235 ⟨⟨by decide, by decide⟩, by decide, by decide⟩ (x_rv C hTH6988 (ci := 10) rfl ga0 rg_112) rfl hl7011.1 rfl (Nat.le_of_ble_eq_true rfl) dX10_readAny_44 hSH6988 (AE_sub (fun _ _ => rfl) (by decide) hSH6988.1) (fun vH7094 H7094 locsH7094 pH7094 zH7094 kH7094 hSH7094 => ?_)
            obtain ⟨x7095, hvH7094, bx7095, g7096, g7097, g7098, g7099, mf7100, hTH7094⟩ := pH7094
            subst hvH7094
            clear zH7094
            have b7101 : ∀ j : Nat, j < 3000 + mn.toNatClampNeg → fI H7094 oq j = fI s.heap oq j ∧ fI H7094 aq j = fI s.heap aq j := fun j hj => ⟨(fI_kept (x_lt hTH6988 kH7094 goq (by decide))).trans (b6991 j hj).1, (fI_kept (x_lt hTH6988 kH7094 gaq (by decide))).trans (b6991 j hj).2⟩
            have b7102 : WF (fun k => fI H7094 oq k) (fun k => fI H7094 aq k) (3000 + mn.toNatClampNeg) (3000 + x6408.toNatClampNeg) 0 (B + 1 - x6403.toNatClampNeg) := WF.congr (fun j => fI_kept (x_lt hTH6988 kH7094 goq (by decide))) (fun j => fI_kept (x_lt hTH6988 kH7094 gaq (by decide))) b6992
            have b7103 : PQ (fun j => fI H7094 pq j) (x6410.toNatClampNeg) (x6409.toInt) (x6402.toInt) (B) (x6403.toInt) := PQ.congr (fun j => fI_kept (x_lt hTH6988 kH7094 gpq (by decide))) b6993
            have m7104 := (m6998).trans (MF.i mf7100 (k := 19) (by decide) (by decide)).symm
            have m7105 := (m6999).trans (MF.i mf7100 (k := 20) (by decide) (by decide)).symm
            have m7106 := (m7000).trans (MF.i mf7100 (k := 21) (by decide) (by decide)).symm
            have m7107 := (m7001).trans (MF.i mf7100 (k := 22) (by decide) (by decide)).symm
            have m7108 := (m7002).trans (MF.i mf7100 (k := 35) (by decide) (by decide)).symm
            have m7109 := (m7003).trans (MF.i mf7100 (k := 36) (by decide) (by decide)).symm
            have m7110 := (m7004).trans (MF.i mf7100 (k := 38) (by decide) (by decide)).symm
            have m7111 := (m7005).trans (MF.r mf7100 (k := 32) (by decide) (by decide)).symm
            have m7112 := (m7006).trans (MF.r mf7100 (k := 33) (by decide) (by decide)).symm
            have m7113 := (m7007).trans (MF.r mf7100 (k := 37) (by decide) (by decide)).symm
            have m7114 := (m7008).trans (MF.i mf7100 (k := 18) (by decide) (by decide)).symm
            have m7115 := (m7009).trans (MF.i mf7100 (k := 34) (by decide) (by decide)).symm
            have mf7116 : MF K s.heap H7094 a0 [19, 20, 21, 22, 35, 36, 38, 39, 40] := MF.trans mf6990 mf7100 (by decide)
            refine W.eq (g2 := F0 m 47 ls7010 [.int x7095]) rfl ?_
            exact x_iret C hQ dX10_readAny_47 hSH7094 (by decide) (by decide) (⟨x7095, x6404, x6405, x6406, x6407, x6408, x6409, x6410, rfl, by omega, m7104, m7105, m7106, m7107, m7108, m7109, m7110, Or.inl (by omega), m7111, m7112, m7113, g7096, g7097, g7098, g7099, mf7116, b7101, Or.inl (by omega), hTH7094⟩)
        · have k7013 := i_eq c7012
          clear hrH6988
          refine lv_aload_n hx hb dX10_readAny_24 rfl (lv_at hl7011 1 rfl) ?_
          refine lv_bipush (v := 40) hx hb dX10_readAny_25 (by decide) ?_
          refine x_V (As := [.int 40]) (rest := []) C (a_X10_isSign l K G H6988 (40) (x6406) (x6407) hTH6988 ga0 m7000 m7001) yo_X10_isSign wM_X10_249 ⟨⟨by decide, by decide⟩, by decide, by decide⟩ (x_rv C hTH6988 (ci := 10) rfl ga0 rg_112) rfl hl7011.1 rfl (Nat.le_of_ble_eq_true rfl) dX10_readAny_27 hSH6988 (AE_sub (fun _ _ => rfl) (by decide) hSH6988.1) (fun vH7117 H7117 locsH7117 pH7117 zH7117 kH7117 hSH7117 => ?_)
          obtain ⟨x7118, hvH7117, bx7118, hrH7117, hTH7117⟩ := pH7117
          subst hvH7117
          clear zH7117
          have mf7119 : MF K s.heap H7117 a0 [19, 20, 21, 22, 35, 36, 38, 39, 40] := MF.eff (x_lt hTH6988 kH7117 ga0 (by decide)) mf6990
          have b7120 : ∀ j : Nat, j < 3000 + mn.toNatClampNeg → fI H7117 oq j = fI s.heap oq j ∧ fI H7117 aq j = fI s.heap aq j := fun j hj => ⟨(fI_kept (x_lt hTH6988 kH7117 goq (by decide))).trans (b6991 j hj).1, (fI_kept (x_lt hTH6988 kH7117 gaq (by decide))).trans (b6991 j hj).2⟩
          have b7121 : WF (fun k => fI H7117 oq k) (fun k => fI H7117 aq k) (3000 + mn.toNatClampNeg) (3000 + x6408.toNatClampNeg) 0 (B + 1 - x6403.toNatClampNeg) := WF.congr (fun j => fI_kept (x_lt hTH6988 kH7117 goq (by decide))) (fun j => fI_kept (x_lt hTH6988 kH7117 gaq (by decide))) b6992
          have b7122 : PQ (fun j => fI H7117 pq j) (x6410.toNatClampNeg) (x6409.toInt) (x6402.toInt) (B) (x6403.toInt) := PQ.congr (fun j => fI_kept (x_lt hTH6988 kH7117 gpq (by decide))) b6993
          have g7123 : CG (avw K H7117 a0) := CG.congr (fun k hk j => av_eff hTH6988 kH7117 ga0 (by decide) (CG_eff [] (by decide) k hk)) g6994
          have g7124 : TU (avw K H7117 a0) (svw K H7117 a0) := TU.congr (fun k hk j => av_eff hTH6988 kH7117 ga0 (by decide) (TU_eff [] (by decide) k hk)) (fun k hk => sv_eff hTH6988 kH7117 ga0 (by decide)) g6995
          have g7125 : WD (avw K H7117 a0) := WD.congr (fun k hk j => av_eff hTH6988 kH7117 ga0 (by decide) (WD_eff [] (by decide) k hk)) g6996
          have g7126 : IM (avw K H7117 a0) := IM.congr (fun k hk j => av_eff hTH6988 kH7117 ga0 (by decide) (IM_eff [] (by decide) k hk)) g6997
          have m7127 := (m6998).trans (fI_kept (x_lt hTH6988 kH7117 ga0 (by decide))).symm
          have m7128 := (m6999).trans (fI_kept (x_lt hTH6988 kH7117 ga0 (by decide))).symm
          have m7129 := (m7000).trans (fI_kept (x_lt hTH6988 kH7117 ga0 (by decide))).symm
          have m7130 := (m7001).trans (fI_kept (x_lt hTH6988 kH7117 ga0 (by decide))).symm
          have m7131 := (m7002).trans (fI_kept (x_lt hTH6988 kH7117 ga0 (by decide))).symm
          have m7132 := (m7003).trans (fI_kept (x_lt hTH6988 kH7117 ga0 (by decide))).symm
          have m7133 := (m7004).trans (fI_kept (x_lt hTH6988 kH7117 ga0 (by decide))).symm
          have m7134 := (m7005).trans (fR_kept (x_lt hTH6988 kH7117 ga0 (by decide))).symm
          have m7135 := (m7006).trans (fR_kept (x_lt hTH6988 kH7117 ga0 (by decide))).symm
          have m7136 := (m7007).trans (fR_kept (x_lt hTH6988 kH7117 ga0 (by decide))).symm
          have m7137 := (m7008).trans (fI_kept (x_lt hTH6988 kH7117 ga0 (by decide))).symm
          have m7138 := (m7009).trans (fI_kept (x_lt hTH6988 kH7117 ga0 (by decide))).symm
          refine W.eq (g2 := F0 m 30 ls7010 [.int x7118]) rfl ?_
          refine lv_if_eq (tgt := 88) hx hb dX10_readAny_30 (by decide) (fun c7139 => ?_) (fun c7139 => ?_)
          · have k7140 := i_eq c7139
            have cl_mn := i_cl (x := mn) (by omega)
            have cl_x6408 := i_cl (x := x6408) (by omega)
            have cl_x6410 := i_cl (x := x6410) (by omega)
            exact J88 ls7010 H7117 locsH7117 (x6404) (x6405) (x6406) (x6407) (x6408) (x6409) (x6410) (lv_sub hl7011 [1, 2] rfl) hTH7117 hSH7117 ⟨by have := i_rng x6404; omega, by have := i_rng x6404; omega⟩ ⟨by have := i_rng x6405; omega, by have := i_rng x6405; omega⟩ ⟨by have := i_rng x6408; omega, by have := i_rng x6408; omega⟩ ⟨by have := i_rng x6409; omega, by have := i_rng x6409; omega⟩ ⟨by have := i_rng x6410; omega, by have := i_rng x6410; omega⟩ m7127 m7128 m7129 m7130 m7131 m7132 m7133 m7134 m7135 m7136 m7137 m7138 b7120 (WF.castE b7121 (by omega) (by omega) (by omega)) (PQ.cast b7122 (by omega) (by omega) (by omega) (by omega) (by omega)) mf7119 g7123 g7124 g7125 g7126 (by and_intros <;> first | assumption | omega)
          · have k7140 := i_ne c7139
            replace hrH7117 := hrH7117.resolve_left (fun h => absurd h.1 (by omega))
            replace i3 := i3.resolve_left (by omega)
            clear i4
            refine lv_aload_n hx hb dX10_readAny_33 rfl (lv_at hl7011 1 rfl) ?_
            refine x_gi C hTH7117 (ci := 10) (k := 36) rfl inX10 (by decide) wF_X10_261 ga0 rg_112 rfl dX10_readAny_34 (fun x7141 ex7141 bx7141 => ?_)
            have ux7141 : x6409 = x7141 := (m7132).trans ex7141.symm
            subst ux7141
            refine lv_bipush (v := 8) hx hb dX10_readAny_37 (by decide) ?_
            refine lv_icmp_ne (tgt := 48) hx hb dX10_readAny_39 (by decide) (fun c7142 => ?_) (fun c7142 => ?_)
            · have k7143 := i_ne c7142
              refine lv_aload_n hx hb dX10_readAny_48 rfl (lv_at hl7011 1 rfl) ?_
              refine lv_aload_n hx hb dX10_readAny_49 rfl (lv_at hl7011 1 rfl) ?_
              refine x_gi C hTH7117 (ci := 10) (k := 36) rfl inX10 (by decide) wF_X10_261 ga0 rg_112 rfl dX10_readAny_50 (fun x7144 ex7144 bx7144 => ?_)
              have ux7144 : x6409 = x7144 := (m7132).trans ex7144.symm
              subst ux7144
              refine lv_iconst (v := 1) hx hb dX10_readAny_53 (by decide) ?_
              refine lv_iadd hx hb dX10_readAny_54 ?_
              refine lv_topi (fun x7145 ex7145 => ?_)
              have tx7145 := i_add ex7145 (by omega)
              refine x_put C hTH7117 hSH7117 (ci := 10) (k := 36) (v := .int x7145) (ty0 := tyX10) rfl inX10 tyX10_ok nmX10 (by decide) rfl wF_X10_261 ga0 rg_112 rfl rfl (okI (by have := i_rng x7145; omega) (by have := i_rng x7145; omega)) rfl rfl (AE_in ga0 (by decide)) dX10_readAny_55 (fun H7146 locsH7146 hTH7146 hSH7146 wH7146 => ?_)
              have mf7147 : MF K s.heap H7146 a0 [19, 20, 21, 22, 35, 36, 38, 39, 40] := MF.fld hap wH7146 (by decide) (by decide) mf7119
              have g7148 : CG (avw K H7146 a0) := CG.congr (fun k hk j => av_fld hTH7117 ga0 hap wH7146 (by decide) (CG_ok 112 (by decide) k hk) (CG_ne 36 (by decide) k hk)) g7123
              have g7149 : TU (avw K H7146 a0) (svw K H7146 a0) := TU.congr (fun k hk j => av_fld hTH7117 ga0 hap wH7146 (by decide) (TU_ok 112 (by decide) k hk) (TU_ne 36 (by decide) k hk)) (fun k hk => sv_fld hap wH7146 (by decide) (TU_slt k hk) (TU_sne 36 (by decide) k hk)) g7124
              have g7150 : WD (avw K H7146 a0) := WD.congr (fun k hk j => av_fld hTH7117 ga0 hap wH7146 (by decide) (WD_ok 112 (by decide) k hk) (WD_ne 36 (by decide) k hk)) g7125
              have g7151 : IM (avw K H7146 a0) := IM.congr (fun k hk j => av_fld hTH7117 ga0 hap wH7146 (by decide) (IM_ok 112 (by decide) k hk) (IM_ne 36 (by decide) k hk)) g7126
              have b7152 : ∀ j : Nat, j < 3000 + mn.toNatClampNeg → fI H7146 oq j = fI s.heap oq j ∧ fI H7146 aq j = fI s.heap aq j := fun j hj => ⟨(Wr.neI wH7146 (Or.inl (G_ne goq ga0 (by decide)))).trans (b7120 j hj).1, (Wr.neI wH7146 (Or.inl (G_ne gaq ga0 (by decide)))).trans (b7120 j hj).2⟩
              have b7153 : WF (fun k => fI H7146 oq k) (fun k => fI H7146 aq k) (3000 + mn.toNatClampNeg) (3000 + x6408.toNatClampNeg) 0 (B + 1 - x6403.toNatClampNeg) := WF.congr (fun j => Wr.neI wH7146 (Or.inl (G_ne goq ga0 (by decide)))) (fun j => Wr.neI wH7146 (Or.inl (G_ne gaq ga0 (by decide)))) b7121
              have b7154 : PQ (fun j => fI H7146 pq j) (x6410.toNatClampNeg) (x6409.toInt) (x6402.toInt) (B) (x6403.toInt) := PQ.congr (fun j => Wr.neI wH7146 (Or.inl (G_ne gpq ga0 (by decide)))) b7122
              have m7155 := m7127.trans (Wr.neI wH7146 (Or.inr (x_apart hKT hts inX10 tyX10 tyX10_ok nmX10 rfl 19 36 (by decide) (by decide) (by decide)))).symm
              have m7156 := m7128.trans (Wr.neI wH7146 (Or.inr (x_apart hKT hts inX10 tyX10 tyX10_ok nmX10 rfl 20 36 (by decide) (by decide) (by decide)))).symm
              have m7157 := m7129.trans (Wr.neI wH7146 (Or.inr (x_apart hKT hts inX10 tyX10 tyX10_ok nmX10 rfl 21 36 (by decide) (by decide) (by decide)))).symm
              have m7158 := m7130.trans (Wr.neI wH7146 (Or.inr (x_apart hKT hts inX10 tyX10 tyX10_ok nmX10 rfl 22 36 (by decide) (by decide) (by decide)))).symm
              have m7159 := m7131.trans (Wr.neI wH7146 (Or.inr (x_apart hKT hts inX10 tyX10 tyX10_ok nmX10 rfl 35 36 (by decide) (by decide) (by decide)))).symm
              have m7161 := m7133.trans (Wr.neI wH7146 (Or.inr (x_apart hKT hts inX10 tyX10 tyX10_ok nmX10 rfl 38 36 (by decide) (by decide) (by decide)))).symm
              have m7162 := m7134.trans (Wr.neR wH7146 (Or.inr (x_apart hKT hts inX10 tyX10 tyX10_ok nmX10 rfl 32 36 (by decide) (by decide) (by decide)))).symm
              have m7163 := m7135.trans (Wr.neR wH7146 (Or.inr (x_apart hKT hts inX10 tyX10 tyX10_ok nmX10 rfl 33 36 (by decide) (by decide) (by decide)))).symm
              have m7164 := m7136.trans (Wr.neR wH7146 (Or.inr (x_apart hKT hts inX10 tyX10 tyX10_ok nmX10 rfl 37 36 (by decide) (by decide) (by decide)))).symm
              have m7165 := m7137.trans (Wr.neI wH7146 (Or.inr (x_apart hKT hts inX10 tyX10 tyX10_ok nmX10 rfl 18 36 (by decide) (by decide) (by decide)))).symm
              have m7166 := m7138.trans (Wr.neI wH7146 (Or.inr (x_apart hKT hts inX10 tyX10 tyX10_ok nmX10 rfl 34 36 (by decide) (by decide) (by decide)))).symm
              have m7167 := Wr.I wH7146
              have m7167 := m7167.symm
              refine lv_iload_n hx hb dX10_readAny_58 rfl (lv_at hl7011 0 rfl) ?_
              refine lv_if_ne (tgt := 66) hx hb dX10_readAny_59 (by decide) (fun c7168 => ?_) (fun c7168 => ?_)
              · have k7169 := i_ne c7168
                exfalso
                omega
              · have k7169 := i_eq c7168
                refine lv_iload_n hx hb dX10_readAny_62 rfl (lv_at hl7011 2 rfl) ?_
                refine lv_iconst (v := 1) hx hb dX10_readAny_63 (by decide) ?_
                refine lv_iadd hx hb dX10_readAny_64 ?_
                refine lv_topi (fun x7170 ex7170 => ?_)
                have tx7170 := i_add ex7170 (by omega)
                refine lv_istore_n (lv' := [(1, .int x7170), (3, .int x6989), (0, .ref a0), (2, .int x6403)]) hx hb dX10_readAny_65 rfl hl7011 (by decide) rfl (fun ls7171 hl7172 => ?_)
                refine lv_aload_n hx hb dX10_readAny_66 rfl (lv_at hl7172 2 rfl) ?_
                refine lv_iload_n hx hb dX10_readAny_67 rfl (lv_at hl7172 1 rfl) ?_
                refine lv_if_eq (tgt := 76) hx hb dX10_readAny_68 (by decide) (fun c7173 => ?_) (fun c7173 => ?_)
                · have k7174 := i_eq c7173
                  refine lv_bipush (v := 12) hx hb dX10_readAny_76 (by decide) ?_
                  have cc_x6410 := i_cl (x := x6410) (by omega)
                  have cc_x6408 := i_cl (x := x6408) (by omega)
                  have pqc : PQ (fun j => fI H7146 pq j) (x6410.toNatClampNeg) (x6409.toInt) (x6402.toInt) (B) (x6403.toInt) := PQ.cast b7154 (by omega) (by omega) rfl rfl rfl
                  have hcb := pqc.2.2.2.1
                  have hco := pqc.2.1
                  have hck := pqc.2.2.1
                  have h26 := PD.n26 pqc.1 (by omega)
                  refine x_V (As := [.int 12]) (rest := []) C (a_X10_waits l K G H7146 (12) (x6410) hTH7146 ga0 gpq m7164 m7161 g7148 g7149 g7150 g7151 (by and_intros <;> first | assumption | omega)) yo_X10_waits wM_X10_267 ⟨⟨by decide, by decide⟩, by decide, by decide⟩ (x_rv C hTH7146 (ci := 10) rfl ga0 rg_112) rfl hl7172.1 rfl (Nat.le_of_ble_eq_true rfl) dX10_readAny_78 hSH7146 (AE_sub (fun _ _ => rfl) (by decide) hSH7146.1) (fun vH7175 H7175 locsH7175 pH7175 zH7175 kH7175 hSH7175 => ?_)
                  obtain ⟨x7176, hvH7175, ex7176, hrH7175, m7177, g7178, g7179, g7180, g7181, mf7182, m7183, m7184, hTH7175⟩ := pH7175
                  subst hvH7175
                  clear zH7175
                  replace m7177 := EQN.mk m7177
                  have b7185 : ∀ j : Nat, j < 3000 + mn.toNatClampNeg → fI H7175 oq j = fI s.heap oq j ∧ fI H7175 aq j = fI s.heap aq j := fun j hj => ⟨(fI_kept (x_lt hTH7146 kH7175 goq (by decide))).trans (b7152 j hj).1, (fI_kept (x_lt hTH7146 kH7175 gaq (by decide))).trans (b7152 j hj).2⟩
                  have b7186 : WF (fun k => fI H7175 oq k) (fun k => fI H7175 aq k) (3000 + mn.toNatClampNeg) (3000 + x6408.toNatClampNeg) 0 (B + 1 - x6403.toNatClampNeg) := WF.congr (fun j => fI_kept (x_lt hTH7146 kH7175 goq (by decide))) (fun j => fI_kept (x_lt hTH7146 kH7175 gaq (by decide))) b7153
                  have m7187 := (m7155).trans (MF.i mf7182 (k := 19) (by decide) (by decide)).symm
                  have m7188 := (m7156).trans (MF.i mf7182 (k := 20) (by decide) (by decide)).symm
                  have m7189 := (m7157).trans (MF.i mf7182 (k := 21) (by decide) (by decide)).symm
                  have m7190 := (m7158).trans (MF.i mf7182 (k := 22) (by decide) (by decide)).symm
                  have m7191 := (m7159).trans (MF.i mf7182 (k := 35) (by decide) (by decide)).symm
                  have m7192 := (m7162).trans (MF.r mf7182 (k := 32) (by decide) (by decide)).symm
                  have m7193 := (m7163).trans (MF.r mf7182 (k := 33) (by decide) (by decide)).symm
                  have m7194 := (m7164).trans (MF.r mf7182 (k := 37) (by decide) (by decide)).symm
                  have m7195 := (m7165).trans (MF.i mf7182 (k := 18) (by decide) (by decide)).symm
                  have m7196 := (m7166).trans (MF.i mf7182 (k := 34) (by decide) (by decide)).symm
                  have m7197 := (m7167).trans (MF.i mf7182 (k := 36) (by decide) (by decide)).symm
                  have mf7198 : MF K s.heap H7175 a0 [19, 20, 21, 22, 35, 36, 38, 39, 40] := MF.trans mf7147 mf7182 (by decide)
                  have bx7176 := ty_fi (x := x7176) (k := 38) ex7176 hTH7175 ga0 rg_112 rfl
                  refine W.eq (g2 := F0 m 81 ls7171 []) rfl ?_
                  have cc_x7176 := i_cl (x := x7176) (by omega)
                  have hwx := congrArg Int32.toInt m7183
                  have pqn : PQ (fun j => fI H7175 pq j) (x7176.toNatClampNeg) (x6409.toInt + 1) (x6402.toInt + 1) (B) (1) := PQ.push (v := 12) pqc (by show (fI _ pq _).toInt = 12; rw [← m7183]; rfl) m7184 (by omega) (Or.inr (Or.inl ⟨rfl, rfl, rfl, rfl⟩))
                  have hkl := cK_le (f := fun j => fI H7175 pq j) (x7176.toNatClampNeg)
                  have hkc := pqn.2.2.1
                  have hkd := pqn.2.1
                  refine lv_aload_n hx hb dX10_readAny_81 rfl (lv_at hl7172 2 rfl) ?_
                  obtain ⟨q7199, eq7199⟩ : ∃ z : Nat, EQN z (fR H7175 a0 (K.1.2 10 17)) := ⟨_, rfl⟩
                  have gq7199 := ty_fr (q := q7199) (k := 17) (u := 126) eq7199 hTH7175 ga0 rg_112 rfl
                  replace eq7199 := EQN.mk eq7199
                  refine x_V (As := []) (rest := []) C (a_X10_reads l K G H7175 (x6404) (x6405) (x6406) (x6407) (tp) hTH7175 ga0 gq7199 eq7199 m7187 m7188 m7189 m7190 m7195 g7178 g7179 g7180 g7181 (by and_intros <;> first | assumption | omega)) yo_X10_reads wM_X10_242 ⟨⟨by decide, by decide⟩, by decide, by decide⟩ (x_rv C hTH7175 (ci := 10) rfl ga0 rg_112) rfl hl7172.1 rfl (Nat.le_of_ble_eq_true rfl) dX10_readAny_82 hSH7175 (AE_sub (fun _ _ => rfl) (by decide) hSH7175.1) (fun vH7200 H7200 locsH7200 pH7200 zH7200 kH7200 hSH7200 => ?_)
                  obtain ⟨x7201, x7202, x7203, x7204, hvH7200, ex7201, ex7202, ex7203, ex7204, hrH7200, m7205, g7206, g7207, g7208, g7209, mf7210, hTH7200⟩ := pH7200
                  subst hvH7200
                  clear zH7200
                  replace m7205 := EQN.mk m7205
                  have b7211 : ∀ j : Nat, j < 3000 + mn.toNatClampNeg → fI H7200 oq j = fI s.heap oq j ∧ fI H7200 aq j = fI s.heap aq j := fun j hj => ⟨(fI_kept (x_lt hTH7175 kH7200 goq (by decide))).trans (b7185 j hj).1, (fI_kept (x_lt hTH7175 kH7200 gaq (by decide))).trans (b7185 j hj).2⟩
                  have b7212 : WF (fun k => fI H7200 oq k) (fun k => fI H7200 aq k) (3000 + mn.toNatClampNeg) (3000 + x6408.toNatClampNeg) 0 (B + 1 - x6403.toNatClampNeg) := WF.congr (fun j => fI_kept (x_lt hTH7175 kH7200 goq (by decide))) (fun j => fI_kept (x_lt hTH7175 kH7200 gaq (by decide))) b7186
                  have b7213 : PQ (fun j => fI H7200 pq j) (x7176.toNatClampNeg) (x6409.toInt + 1) (x6402.toInt + 1) (B) (1) := PQ.congr (fun j => fI_kept (x_lt hTH7175 kH7200 gpq (by decide))) pqn
                  have m7214 := (m7191).trans (MF.i mf7210 (k := 35) (by decide) (by decide)).symm
                  have m7215 := (m7192).trans (MF.r mf7210 (k := 32) (by decide) (by decide)).symm
                  have m7216 := (m7193).trans (MF.r mf7210 (k := 33) (by decide) (by decide)).symm
                  have m7217 := (m7177).trans (MF.r mf7210 (k := 37) (by decide) (by decide)).symm
                  have m7218 := (m7195).trans (MF.i mf7210 (k := 18) (by decide) (by decide)).symm
                  have m7219 := (m7196).trans (MF.i mf7210 (k := 34) (by decide) (by decide)).symm
                  have m7220 := (m7197).trans (MF.i mf7210 (k := 36) (by decide) (by decide)).symm
                  have m7221 := (ex7176).trans (MF.i mf7210 (k := 38) (by decide) (by decide)).symm
                  have m7222 := (eq7199).trans (MF.r mf7210 (k := 17) (by decide) (by decide)).symm
                  have mf7223 : MF K s.heap H7200 a0 [19, 20, 21, 22, 35, 36, 38, 39, 40] := MF.trans mf7198 mf7210 (by decide)
                  have bx7201 := ty_fi (x := x7201) (k := 19) ex7201 hTH7200 ga0 rg_112 rfl
                  have bx7202 := ty_fi (x := x7202) (k := 20) ex7202 hTH7200 ga0 rg_112 rfl
                  have bx7203 := ty_fi (x := x7203) (k := 21) ex7203 hTH7200 ga0 rg_112 rfl
                  have bx7204 := ty_fi (x := x7204) (k := 22) ex7204 hTH7200 ga0 rg_112 rfl
                  obtain ⟨r1H7200, r2H7200, r3H7200, r4H7200, r5H7200, r6H7200, r7H7200⟩ := hrH7200
                  refine W.eq (g2 := F0 m 85 ls7171 []) rfl ?_
                  refine lv_goto (tgt := 9) hx hb dX10_readAny_85 (by decide) ?_
                  have cl_mn := i_cl (x := mn) (by omega)
                  have hpb := b7213.2.2.2.1
                  exact ih9 (B) ls7171 H7200 locsH7200 (x7170) (x6403) (x7201) (x7202) (x7203) (x7204) (x6408) (x7145) (x7176) (lv_sub hl7172 [2, 0, 3] rfl) hTH7200 hSH7200 ⟨by have := i_rng x7170; omega, by have := i_rng x7170; omega⟩ ⟨by have := i_rng x6403; omega, by have := i_rng x6403; omega⟩ ⟨by have := i_rng x7201; omega, by have := i_rng x7201; omega⟩ ⟨by have := i_rng x7202; omega, by have := i_rng x7202; omega⟩ ⟨by have := i_rng x6408; omega, by have := i_rng x6408; omega⟩ ⟨by have := i_rng x7145; omega, by have := i_rng x7145; omega⟩ ⟨by have := i_rng x7176; omega, by have := i_rng x7176; omega⟩ ex7201 ex7202 ex7203 ex7204 m7214 m7220 m7221 m7215 m7216 m7217 m7218 m7219 b7211 (WF.castE b7212 (by omega) (by omega) (by omega)) (PQ.cast b7213 (by omega) (by omega) (by omega) (by omega) (by omega)) mf7223 g7206 g7207 g7208 g7209 (by omega) (by and_intros <;> first | assumption | omega) 
                · have k7174 := i_ne c7173
                  exfalso
                  omega
            · have k7143 := i_eq c7142
              refine lv_aload_n hx hb dX10_readAny_42 rfl (lv_at hl7011 1 rfl) ?_
              refine lv_iconst (v := 3) hx hb dX10_readAny_43 (by decide) ?_
              refine x_V (As := [.int 3]) (rest := []) C (a_X10_fails l K G H7117 (3) hTH7117 ga0 g7123 g7124 g7125 g7126) yo_X10_fails wM_X10_235 ⟨⟨by decide, by decide⟩, by decide, by decide⟩ (x_rv C hTH7117 (ci := 10) rfl ga0 rg_112) rfl hl7011.1 rfl (Nat.le_of_ble_eq_true rfl) dX10_readAny_44 hSH7117 (AE_sub (fun _ _ => rfl) (by decide) hSH7117.1) (fun vH7224 H7224 locsH7224 pH7224 zH7224 kH7224 hSH7224 => ?_)
              obtain ⟨x7225, hvH7224, bx7225, g7226, g7227, g7228, g7229, mf7230, hTH7224⟩ := pH7224
              subst hvH7224
              clear zH7224
              have b7231 : ∀ j : Nat, j < 3000 + mn.toNatClampNeg → fI H7224 oq j = fI s.heap oq j ∧ fI H7224 aq j = fI s.heap aq j := fun j hj => ⟨(fI_kept (x_lt hTH7117 kH7224 goq (by decide))).trans (b7120 j hj).1, (fI_kept (x_lt hTH7117 kH7224 gaq (by decide))).trans (b7120 j hj).2⟩
              have b7232 : WF (fun k => fI H7224 oq k) (fun k => fI H7224 aq k) (3000 + mn.toNatClampNeg) (3000 + x6408.toNatClampNeg) 0 (B + 1 - x6403.toNatClampNeg) := WF.congr (fun j => fI_kept (x_lt hTH7117 kH7224 goq (by decide))) (fun j => fI_kept (x_lt hTH7117 kH7224 gaq (by decide))) b7121
              have b7233 : PQ (fun j => fI H7224 pq j) (x6410.toNatClampNeg) (x6409.toInt) (x6402.toInt) (B) (x6403.toInt) := PQ.congr (fun j => fI_kept (x_lt hTH7117 kH7224 gpq (by decide))) b7122
              have m7234 := (m7127).trans (MF.i mf7230 (k := 19) (by decide) (by decide)).symm
              have m7235 := (m7128).trans (MF.i mf7230 (k := 20) (by decide) (by decide)).symm
              have m7236 := (m7129).trans (MF.i mf7230 (k := 21) (by decide) (by decide)).symm
              have m7237 := (m7130).trans (MF.i mf7230 (k := 22) (by decide) (by decide)).symm
              have m7238 := (m7131).trans (MF.i mf7230 (k := 35) (by decide) (by decide)).symm
              have m7239 := (m7132).trans (MF.i mf7230 (k := 36) (by decide) (by decide)).symm
              have m7240 := (m7133).trans (MF.i mf7230 (k := 38) (by decide) (by decide)).symm
              have m7241 := (m7134).trans (MF.r mf7230 (k := 32) (by decide) (by decide)).symm
              have m7242 := (m7135).trans (MF.r mf7230 (k := 33) (by decide) (by decide)).symm
              have m7243 := (m7136).trans (MF.r mf7230 (k := 37) (by decide) (by decide)).symm
              have m7244 := (m7137).trans (MF.i mf7230 (k := 18) (by decide) (by decide)).symm
              have m7245 := (m7138).trans (MF.i mf7230 (k := 34) (by decide) (by decide)).symm
              have mf7246 : MF K s.heap H7224 a0 [19, 20, 21, 22, 35, 36, 38, 39, 40] := MF.trans mf7119 mf7230 (by decide)
              refine W.eq (g2 := F0 m 47 ls7010 [.int x7225]) rfl ?_
              exact x_iret C hQ dX10_readAny_47 hSH7224 (by decide) (by decide) (⟨x7225, x6404, x6405, x6406, x6407, x6408, x6409, x6410, rfl, by omega, m7234, m7235, m7236, m7237, m7238, m7239, m7240, Or.inl (by omega), m7241, m7242, m7243, g7226, g7227, g7228, g7229, mf7246, b7231, Or.inl (by omega), hTH7224⟩)
  have pf00 : ∀ j : Nat, j < 3000 + mn.toNatClampNeg → fI s.heap oq j = fI s.heap oq j ∧ fI s.heap aq j = fI s.heap aq j := fun _ _ => ⟨rfl, rfl⟩
  have hmn := i_cl (x := mn) (by omega)
  refine lv_iconst (v := 0) hx hb dX10_readAny_0 (by decide) ?_
  refine lv_istore_n (lv' := [(1, .int 0), (0, .ref a0)]) hx hb dX10_readAny_1 rfl hl (by decide) rfl (fun ls7247 hl7248 => ?_)
  refine lv_aload_n hx hb dX10_readAny_2 rfl (lv_at hl7248 1 rfl) ?_
  refine lv_iconst (v := 0) hx hb dX10_readAny_3 (by decide) ?_
  refine x_put C hT hS (ci := 10) (k := 38) (v := .int 0) (ty0 := tyX10) rfl inX10 tyX10_ok nmX10 (by decide) rfl wF_X10_258 ga0 rg_112 rfl rfl (okI (by have := i_rng (0 : Int32); omega) (by have := i_rng (0 : Int32); omega)) rfl rfl (AE_in ga0 (by decide)) dX10_readAny_4 (fun H7249 locsH7249 hTH7249 hSH7249 wH7249 => ?_)
  have mf7250 : MF K s.heap H7249 a0 [19, 20, 21, 22, 35, 36, 38, 39, 40] := MF.fld hap wH7249 (by decide) (by decide) mf0
  have g7251 : CG (avw K H7249 a0) := CG.congr (fun k hk j => av_fld hT ga0 hap wH7249 (by decide) (CG_ok 112 (by decide) k hk) (CG_ne 38 (by decide) k hk)) hg_CG
  have g7252 : TU (avw K H7249 a0) (svw K H7249 a0) := TU.congr (fun k hk j => av_fld hT ga0 hap wH7249 (by decide) (TU_ok 112 (by decide) k hk) (TU_ne 38 (by decide) k hk)) (fun k hk => sv_fld hap wH7249 (by decide) (TU_slt k hk) (TU_sne 38 (by decide) k hk)) hg_TU
  have g7253 : WD (avw K H7249 a0) := WD.congr (fun k hk j => av_fld hT ga0 hap wH7249 (by decide) (WD_ok 112 (by decide) k hk) (WD_ne 38 (by decide) k hk)) hg_WD
  have g7254 : IM (avw K H7249 a0) := IM.congr (fun k hk j => av_fld hT ga0 hap wH7249 (by decide) (IM_ok 112 (by decide) k hk) (IM_ne 38 (by decide) k hk)) hg_IM
  have b7255 : ∀ j : Nat, j < 3000 + mn.toNatClampNeg → fI H7249 oq j = fI s.heap oq j ∧ fI H7249 aq j = fI s.heap aq j := fun j hj => ⟨(Wr.neI wH7249 (Or.inl (G_ne goq ga0 (by decide)))).trans (pf00 j hj).1, (Wr.neI wH7249 (Or.inl (G_ne gaq ga0 (by decide)))).trans (pf00 j hj).2⟩
  have m7256 := eoq.trans (Wr.neR wH7249 (Or.inr (x_apart hKT hts inX10 tyX10 tyX10_ok nmX10 rfl 32 38 (by decide) (by decide) (by decide)))).symm
  have m7257 := eaq.trans (Wr.neR wH7249 (Or.inr (x_apart hKT hts inX10 tyX10 tyX10_ok nmX10 rfl 33 38 (by decide) (by decide) (by decide)))).symm
  have m7258 := epq.trans (Wr.neR wH7249 (Or.inr (x_apart hKT hts inX10 tyX10 tyX10_ok nmX10 rfl 37 38 (by decide) (by decide) (by decide)))).symm
  have m7259 := esp.trans (Wr.neI wH7249 (Or.inr (x_apart hKT hts inX10 tyX10 tyX10_ok nmX10 rfl 19 38 (by decide) (by decide) (by decide)))).symm
  have m7260 := efr.trans (Wr.neI wH7249 (Or.inr (x_apart hKT hts inX10 tyX10 tyX10_ok nmX10 rfl 20 38 (by decide) (by decide) (by decide)))).symm
  have m7261 := etk.trans (Wr.neI wH7249 (Or.inr (x_apart hKT hts inX10 tyX10 tyX10_ok nmX10 rfl 21 38 (by decide) (by decide) (by decide)))).symm
  have m7262 := evl.trans (Wr.neI wH7249 (Or.inr (x_apart hKT hts inX10 tyX10 tyX10_ok nmX10 rfl 22 38 (by decide) (by decide) (by decide)))).symm
  have m7263 := emn.trans (Wr.neI wH7249 (Or.inr (x_apart hKT hts inX10 tyX10 tyX10_ok nmX10 rfl 35 38 (by decide) (by decide) (by decide)))).symm
  have m7264 := eon.trans (Wr.neI wH7249 (Or.inr (x_apart hKT hts inX10 tyX10 tyX10_ok nmX10 rfl 36 38 (by decide) (by decide) (by decide)))).symm
  have m7266 := etp.trans (Wr.neI wH7249 (Or.inr (x_apart hKT hts inX10 tyX10 tyX10_ok nmX10 rfl 18 38 (by decide) (by decide) (by decide)))).symm
  have m7267 := ejb.trans (Wr.neI wH7249 (Or.inr (x_apart hKT hts inX10 tyX10 tyX10_ok nmX10 rfl 34 38 (by decide) (by decide) (by decide)))).symm
  have m7268 := Wr.I wH7249
  have pqz : PQ (fun j => fI H7249 pq j) 0 (on.toInt) 0 0 1 := ⟨PD.nil, by show ((0 : Nat) : Int) ≤ _; omega, rfl, rfl, Or.inl rfl⟩
  have wfz : WF (fun k => fI H7249 oq k) (fun k => fI H7249 aq k) (3000 + mn.toNatClampNeg) (3000 + mn.toNatClampNeg) 0 0 := WF.nil
  refine lv_iconst (v := 1) hx hb dX10_readAny_7 (by decide) ?_
  refine lv_istore_n (lv' := [(2, .int 1), (1, .int 0), (0, .ref a0)]) hx hb dX10_readAny_8 rfl hl7248 (by decide) rfl (fun ls7269 hl7270 => ?_)
  have cl_1 := i_cl (x := (1 : Int32)) (by omega)
  have ca_k0 : (0 : Int32).toNatClampNeg = 0 := rfl
  have ca_k1 : (1 : Int32).toNatClampNeg = 1 := rfl
  have hpb := pqz.2.2.2.1
  exact J9 ((500 - fr.toInt).toNat + 1) (0) ls7269 H7249 locsH7249 (0) (1) (sp) (fr) (tk) (vl) (mn) (on) (0) (lv_sub hl7270 [2, 1, 0] rfl) hTH7249 hSH7249 (by decide) (by decide) ⟨by have := i_rng sp; omega, by have := i_rng sp; omega⟩ ⟨by have := i_rng fr; omega, by have := i_rng fr; omega⟩ ⟨by have := i_rng mn; omega, by have := i_rng mn; omega⟩ ⟨by have := i_rng on; omega, by have := i_rng on; omega⟩ (by decide) m7259 m7260 m7261 m7262 m7263 m7264 (m7268).symm m7256 m7257 m7258 m7266 m7267 b7255 (WF.castE wfz (by omega) (by omega) (by omega)) (PQ.cast pqz (by omega) (by omega) (by omega) (by omega) (by omega)) mf7250 g7251 g7252 g7253 g7254 (by omega) (by and_intros <;> first | assumption | omega) 
