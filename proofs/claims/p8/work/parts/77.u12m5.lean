/-! ===== the reference's conditions: what waits ===== -/
/-- the open nots (false) and brackets (true), the latest first -/
def mkL (f : Nat → Int32) : Nat → List Bool
  | 0 => []
  | n + 1 => if (f n).toInt = 9 then false :: mkL f n else if (f n).toInt = 12 then true :: mkL f n else mkL f n
theorem mkL_len {f : Nat → Int32} : ∀ n : Nat, (mkL f n).length = cO f n
  | 0 => rfl
  | n + 1 => by
    have ih := mkL_len (f := f) n
    rw [mkL, cO]
    by_cases h : (f n).toInt = 9
    · rw [if_pos h, if_pos (Or.inl h), List.length_cons, ih]
    · rw [if_neg h]
      by_cases g : (f n).toInt = 12
      · rw [if_pos g, if_pos (Or.inr g), List.length_cons, ih]
      · rw [if_neg g, if_neg (fun z => z.elim h g), ih]; rfl
theorem mkL_congr {f f1 : Nat → Int32} : ∀ n : Nat, (∀ j, j < n → f1 j = f j) → mkL f1 n = mkL f n := by
  intro n
  induction n with
  | zero => intro _; rfl
  | succ n ih => intro e; rw [mkL, mkL, ih (fun j hj => e j (by omega)), e n (by omega)]
theorem mkL_9 {f : Nat → Int32} {n m : Nat} (hm : m = n + 1) (h : (f n).toInt = 9) : mkL f m = false :: mkL f n := by subst hm; rw [mkL, if_pos h]
theorem mkL_12 {f : Nat → Int32} {n m : Nat} (hm : m = n + 1) (h : (f n).toInt = 12) : mkL f m = true :: mkL f n := by subst hm; rw [mkL, if_neg (by omega), if_pos h]
theorem mkL_x {f : Nat → Int32} {n m : Nat} (hm : m = n + 1) (h : (f n).toInt = 10 ∨ (f n).toInt = 11) : mkL f m = mkL f n := by subst hm; rw [mkL, if_neg (by omega), if_neg (by omega)]
/-- without the nots on top -/
def dN : List Bool → List Bool
  | false :: t => dN t
  | t => t
theorem dN_step {f : Nat → Int32} {n m : Nat} (hm : m = n + 1) (h : (f n).toInt ≠ 12) : dN (mkL f m) = dN (mkL f n) := by
  subst hm
  rw [mkL]
  by_cases g : (f n).toInt = 9
  · rw [if_pos g]; rfl
  · rw [if_neg g, if_neg h]
theorem dN_le : ∀ t : List Bool, (dN t).length ≤ t.length
  | [] => Nat.le_refl _
  | true :: _ => Nat.le_refl _
  | false :: t => Nat.le_succ_of_le (dN_le t)
theorem dN_len : ∀ {s t : List Bool}, dN s = t → s.length = t.length → s = t
  | [], _, h, _ => h
  | true :: _, _, h, _ => h
  | false :: s, t, h, e => by
    have := dN_le s
    have h : dN s = t := h
    rw [h] at this
    rw [List.length_cons] at e
    omega
/-- no not on top -/
def nh : List Bool → Bool
  | false :: _ => false
  | _ => true
theorem dN_nh : ∀ {t : List Bool}, nh t = true → dN t = t
  | [], _ => rfl
  | true :: _, _ => rfl
  | false :: _, h => by cases h
theorem nh_0 {f : Nat → Int32} : ∀ {n : Nat}, PD f n → (n = 0 ∨ (f (n - 1)).toInt ≠ 9) → nh (mkL f n) = true
  | 0, _, _ => rfl
  | n + 1, hp, ht => by
    have h9 : (f n).toInt ≠ 9 := ht.resolve_left (by omega)
    have hn := hp n (by omega)
    rw [mkL, if_neg h9]
    by_cases g : (f n).toInt = 12
    · rw [if_pos g]; rfl
    · rw [if_neg g]
      refine nh_0 (hp.pre (by omega)) ?_
      rcases hn.1 with q | q | q | q
      · exact absurd q h9
      · rcases hn.2.1 with z | z | z | z
        · exact absurd q z
        · exact Or.inl z
        · exact Or.inr (by omega)
        · exact Or.inr (by omega)
      · rcases hn.2.2 with z | z | z
        · exact absurd q z
        · exact Or.inl z
        · exact Or.inr (by omega)
      · exact absurd q g
theorem nh_K {f : Nat → Int32} : ∀ {n : Nat}, nh (mkL f n) = true → cK f n = 0 → mkL f n = []
  | 0, _, _ => rfl
  | n + 1, h, hk => by
    rw [cK] at hk
    rw [mkL] at h ⊢
    by_cases g : (f n).toInt = 9
    · rw [if_pos g] at h; cases h
    · rw [if_neg g] at h ⊢
      by_cases q : (f n).toInt = 12
      · rw [if_pos q] at hk; omega
      · rw [if_neg q] at h hk ⊢; exact nh_K h hk
theorem nh_br {f : Nat → Int32} : ∀ {n : Nat}, nh (mkL f n) = true → cK f n ≠ 0 → ∃ t, mkL f n = true :: t
  | 0, _, hk => absurd rfl hk
  | n + 1, h, hk => by
    rw [cK] at hk
    rw [mkL] at h ⊢
    by_cases g : (f n).toInt = 9
    · rw [if_pos g] at h; cases h
    · rw [if_neg g] at h ⊢
      by_cases q : (f n).toInt = 12
      · rw [if_pos q]; exact ⟨_, rfl⟩
      · rw [if_neg q] at h hk ⊢; exact nh_br h hk
/-- behind an operand -/
def aoI (kk vv : Nat → Int) (lw : Int) (d j : Nat) : Option Nat := if cAO kk j = true then lpI (paS kk vv lw d) (cAO kk) (j + 1) else some j
def coI (kk vv : Nat → Int) (lw : Int) : List Bool → Nat → Option Nat
  | [], j => aoI kk vv lw 8 j
  | false :: t, j => coI kk vv lw t j
  | true :: t, j => match aoI kk vv lw (7 - t.length) j with
    | none => none
    | some m => if kk m = 41 then coI kk vv lw t (m + 1) else none
/-- an operand is due -/
def duI (kk vv : Nat → Int) (lw : Int) (t : List Bool) (i : Nat) : Option Nat := match paS kk vv lw (8 - t.length) i with
  | none => none
  | some j => coI kk vv lw t j
theorem du_0 {kk vv : Nat → Int} {lw : Int} {i : Nat} : lpI (paS kk vv lw 8) (cAO kk) i = duI kk vv lw [] i := by rw [lpI_eq (paS_gp 8)]; rfl
theorem du_not {kk vv : Nat → Int} {lw : Int} {t : List Bool} {i : Nat} (hl : t.length < 8) (h : kk i = 10) : duI kk vv lw t i = duI kk vv lw (false :: t) (i + 1) := by
  unfold duI
  rw [List.length_cons, show 8 - t.length = (8 - (t.length + 1)) + 1 by omega]
  rw [show paS kk vv lw (8 - (t.length + 1) + 1) i = paS kk vv lw (8 - (t.length + 1)) (i + 1) from if_pos h]
  rfl
theorem du_br {kk vv : Nat → Int} {lw : Int} {t : List Bool} {i : Nat} (hl : t.length < 8) (h : kk i = 40) : duI kk vv lw t i = duI kk vv lw (true :: t) (i + 1) := by
  unfold duI
  rw [List.length_cons, show 8 - t.length = (7 - t.length) + 1 by omega, show 8 - (t.length + 1) = 7 - t.length by omega]
  rw [show paS kk vv lw (7 - t.length + 1) i = (match lpI (paS kk vv lw (7 - t.length)) (cAO kk) (i + 1) with | none => none | some j => if kk j = 41 then some (j + 1) else none) from (if_neg (by omega)).trans (if_pos h)]
  rw [lpI_eq (paS_gp _)]
  cases e : paS kk vv lw (7 - t.length) (i + 1) with
  | none => rfl
  | some j =>
    show _ = (match aoI kk vv lw (7 - t.length) j with | none => none | some m => if kk m = 41 then coI kk vv lw t (m + 1) else none)
    show (match (match aoI kk vv lw (7 - t.length) j with | none => none | some j => if kk j = 41 then some (j + 1) else none) with | none => none | some j => coI kk vv lw t j) = _
    cases aoI kk vv lw (7 - t.length) j with
    | none => rfl
    | some m =>
      show (match (if kk m = 41 then some (m + 1) else none) with | none => none | some j => coI kk vv lw t j) = if kk m = 41 then coI kk vv lw t (m + 1) else none
      by_cases g : kk m = 41
      · rw [if_pos g, if_pos g]
      · rw [if_neg g, if_neg g]
theorem du_deep {kk vv : Nat → Int} {lw : Int} {t : List Bool} {i : Nat} (hl : t.length = 8) (h : kk i = 10 ∨ kk i = 40) : duI kk vv lw t i = none := by
  unfold duI
  rw [pa_deep (by omega) h]
theorem du_no {kk vv : Nat → Int} {lw : Int} {t : List Bool} {i : Nat} (hk : kk i ≠ 10 ∧ kk i ≠ 40) (h : cpI kk vv lw i = none) : duI kk vv lw t i = none := by
  unfold duI
  rw [pa_cp hk, h]
theorem du_cp {kk vv : Nat → Int} {lw : Int} {t : List Bool} {i j : Nat} (hk : kk i ≠ 10 ∧ kk i ≠ 40) (h : cpI kk vv lw i = some j) : duI kk vv lw t i = coI kk vv lw t j := by
  unfold duI
  rw [pa_cp hk, h]
theorem co_dN {kk vv : Nat → Int} {lw : Int} {j : Nat} : ∀ t : List Bool, coI kk vv lw (dN t) j = coI kk vv lw t j
  | [] => rfl
  | true :: _ => rfl
  | false :: t => co_dN t
theorem co_eq {kk vv : Nat → Int} {lw : Int} {j : Nat} {s t : List Bool} (h : dN s = dN t) : coI kk vv lw t j = coI kk vv lw s j := by rw [← co_dN t, ← h, co_dN s]
/-- and, or -/
theorem co_ao {kk vv : Nat → Int} {lw : Int} {j : Nat} {t : List Bool} (hl : t.length ≤ 8) (hn : nh t = true) (h : kk j = 9 ∨ kk j = 8) : coI kk vv lw t j = duI kk vv lw t (j + 1) := by
  have hc : cAO kk j = true := decide_eq_true h
  cases t with
  | nil => 
    show (if cAO kk j = true then lpI (paS kk vv lw 8) (cAO kk) (j + 1) else some j) = _
    rw [if_pos hc]; exact du_0
  | cons b t =>
    cases b with
    | false => cases hn
    | true =>
      rw [List.length_cons] at hl
      show (match aoI kk vv lw (7 - t.length) j with | none => none | some m => if kk m = 41 then coI kk vv lw t (m + 1) else none) = _
      unfold aoI duI
      rw [if_pos hc, lpI_eq (paS_gp _), List.length_cons, show 8 - (t.length + 1) = 7 - t.length by omega]
      cases paS kk vv lw (7 - t.length) (j + 1) with
      | none => rfl
      | some m => rfl
theorem co_end {kk vv : Nat → Int} {lw : Int} {j : Nat} {t : List Bool} (ht : t = []) (h : kk j ≠ 9 ∧ kk j ≠ 8) : coI kk vv lw t j = some j := by
  subst ht
  have hc : cAO kk j = false := decide_eq_false (by omega)
  show (if cAO kk j = true then lpI (paS kk vv lw 8) (cAO kk) (j + 1) else some j) = _
  rw [if_neg (by rw [hc]; decide)]
theorem co_br {kk vv : Nat → Int} {lw : Int} {j : Nat} {t : List Bool} (h : kk j ≠ 9 ∧ kk j ≠ 8) : coI kk vv lw (true :: t) j = if kk j = 41 then coI kk vv lw t (j + 1) else none := by
  have hc : cAO kk j = false := decide_eq_false (by omega)
  show (match aoI kk vv lw (7 - t.length) j with | none => none | some m => if kk m = 41 then coI kk vv lw t (m + 1) else none) = _
  unfold aoI
  rw [if_neg (by rw [hc]; decide)]
theorem co_bad {kk vv : Nat → Int} {lw : Int} {j : Nat} {t : List Bool} (ht : ∃ u, t = true :: u) (h : kk j ≠ 9 ∧ kk j ≠ 8) (h41 : kk j ≠ 41) : coI kk vv lw t j = none := by
  obtain ⟨u, rfl⟩ := ht
  rw [co_br h, if_neg h41]
theorem co_close {kk vv : Nat → Int} {lw : Int} {j : Nat} {t u : List Bool} (ht : t = true :: u) (h41 : kk j = 41) : coI kk vv lw t j = coI kk vv lw u (j + 1) := by
  subst ht
  rw [co_br (by omega), if_pos h41]
/-- what waits, seen as a list; all that is open is counted -/
def PX (f : Nat → Int32) (n : Nat) (o : Int) (t : List Bool) : Prop := mkL f n = t ∧ (t.length : Int) = o
theorem PX.congr {f f1 : Nat → Int32} {n : Nat} {o : Int} {t : List Bool} (e : ∀ j, f1 j = f j) (h : PX f n o t) : PX f1 n o t := by rw [show f1 = f from funext e]; exact h
theorem PX.cast {f : Nat → Int32} {n n' : Nat} {o o' : Int} {t : List Bool} (h : PX f n o t) (hn : n' = n) (ho : o' = o) : PX f n' o' t := by rw [hn, ho]; exact h
theorem PX.nil {f : Nat → Int32} {o : Int} (h : o = 0) : PX f 0 o [] := ⟨rfl, h.symm⟩
theorem PX.push {f f1 : Nat → Int32} {n m : Nat} {o o' v : Int} {t u : List Bool} (h : PX f n o t) (hx : (f1 n).toInt = v) (ho : ∀ j, j ≠ n → f1 j = f j) (hm : m = n + 1)
    (hv : (v = 9 ∧ o' = o + 1 ∧ u = false :: t) ∨ (v = 12 ∧ o' = o + 1 ∧ u = true :: t) ∨ ((v = 10 ∨ v = 11) ∧ o' = o ∧ u = t)) : PX f1 m o' u := by
  obtain ⟨h1, h2⟩ := h
  have e := mkL_congr n (fun j hj => ho j (by omega))
  rcases hv with ⟨q, p, rfl⟩ | ⟨q, p, rfl⟩ | ⟨q, p, rfl⟩
  · exact ⟨by rw [mkL_9 hm (by omega), e, h1], by rw [List.length_cons]; omega⟩
  · exact ⟨by rw [mkL_12 hm (by omega), e, h1], by rw [List.length_cons]; omega⟩
  · exact ⟨by rw [mkL_x hm (by omega), e, h1], by omega⟩
theorem PX.settle {f : Nat → Int32} {n n' : Nat} {o o' : Int} {t : List Bool} (h : PX f n o t) (h1 : dN (mkL f n') = dN (mkL f n)) (h2 : ((cO f n' : Nat) : Int) + o = ((cO f n : Nat) : Int) + o') : PX f n' o' (mkL f n') ∧ dN (mkL f n') = dN t := by
  obtain ⟨rfl, h3⟩ := h
  rw [← mkL_len, ← mkL_len] at h2
  exact ⟨⟨rfl, by omega⟩, h1⟩
/-- of and, or: nothing open goes -/
theorem PX.settleX {f : Nat → Int32} {n n' : Nat} {o o' : Int} {t : List Bool} (h : PX f n o t) (hn : nh t = true) (h1 : dN (mkL f n') = dN (mkL f n)) (h2 : ((cO f n' : Nat) : Int) + o = ((cO f n : Nat) : Int) + o') (ho : o' = o) : PX f n' o' t := by
  obtain ⟨rfl, h3⟩ := h
  rw [← mkL_len, ← mkL_len] at h2
  rw [dN_nh hn] at h1
  have := dN_len h1 (by omega)
  exact ⟨this, by omega⟩
theorem PX.pop {f : Nat → Int32} {n m : Nat} {o o' : Int} {t : List Bool} (h : PX f n o t) (ht : (f m).toInt = 12) (hm : n = m + 1) (ho : o' = o - 1) : t = true :: mkL f m ∧ PX f m o' (mkL f m) := by
  obtain ⟨rfl, h3⟩ := h
  have e := mkL_12 hm ht
  rw [e, List.length_cons] at h3
  exact ⟨e, rfl, by omega⟩
set_option maxHeartbeats 4000000 in
set_option maxRecDepth 100000 in
theorem a_X10_settles_e (l : Launch) (K : KE) (G : Nat → Option Nat) (H : Heap) {a0 : Nat} (x1 : Int32) {oq : Nat} {aq : Nat} {pq : Nat} (m0 : Int32) (pn : Int32) (mn : Int32) (on : Int32) (hT : TY K G H) (ga0 : G a0 = some 112) (hx1 : 9 ≤ x1.toInt ∧ x1.toInt ≤ 11) (goq : G oq = some 136) (eoq : oq = fR H a0 (K.1.2 10 32)) (gaq : G aq = some 137) (eaq : aq = fR H a0 (K.1.2 10 33)) (gpq : G pq = some 138) (epq : pq = fR H a0 (K.1.2 10 37)) (epn : pn = fI H a0 (K.1.2 10 38)) (emn : mn = fI H a0 (K.1.2 10 35)) (eon : on = fI H a0 (K.1.2 10 36)) (hg_CG : CG (avw K H a0)) (hg_TU : TU (avw K H a0) (svw K H a0)) (hg_WD : WD (avw K H a0)) (hg_IM : IM (avw K H a0)) (hb_wf : WF (fun k => fI H oq k) (fun k => fI H aq k) (3000 + m0.toNatClampNeg) (3000 + mn.toNatClampNeg) 0 (cB (fun j => fI H pq j) pn.toNatClampNeg + 1)) (hp0 : mn.toInt + pn.toInt ≤ 500) (hp1 : 0 ≤ m0.toInt ∧ m0.toInt ≤ mn.toInt) (hy0 : PD (fun j => fI H pq j) pn.toNatClampNeg) (hy1 : ((cO (fun j => fI H pq j) pn.toNatClampNeg : Nat) : Int) ≤ on.toInt) : MX l K yX10_settles cX10_settles 2 none 1 22 0 0 [.ref a0, .int x1] H (AE G [112, 136, 137] H.size) (fun v H1 => ∃ (t0 : Int32) (t1 : Int32) (t2 : Int32), v = none ∧ t0 = fI H1 a0 (K.1.2 10 38) ∧ t1 = fI H1 a0 (K.1.2 10 35) ∧ t2 = fI H1 a0 (K.1.2 10 36) ∧ (t0.toInt ≤ pn.toInt ∧ t1.toInt + t0.toInt = mn.toInt + pn.toInt ∧ ((x1.toInt = 9 ∧ t2.toInt + pn.toInt = on.toInt + t0.toInt) ∨ (x1.toInt ≠ 9 ∧ t2.toInt = on.toInt))) ∧ oq = fR H1 a0 (K.1.2 10 32) ∧ aq = fR H1 a0 (K.1.2 10 33) ∧ pq = fR H1 a0 (K.1.2 10 37) ∧ (CG (avw K H1 a0)) ∧ (TU (avw K H1 a0) (svw K H1 a0)) ∧ (WD (avw K H1 a0)) ∧ (IM (avw K H1 a0)) ∧ MF K H H1 a0 [35, 36, 38] ∧ (∀ j : Nat, j < 3000 + mn.toNatClampNeg → fI H1 oq j = fI H oq j ∧ fI H1 aq j = fI H aq j) ∧ (((cO (fun j => fI H pq j) t0.toNatClampNeg : Nat) : Int) ≤ t2.toInt) ∧ (cK (fun j => fI H pq j) t0.toNatClampNeg = cK (fun j => fI H pq j) pn.toNatClampNeg) ∧ (t0.toInt = 0 ∨ (fI H pq (t0.toNatClampNeg - 1)).toInt ≠ x1.toInt) ∧ (WF (fun k => fI H1 oq k) (fun k => fI H1 aq k) (3000 + m0.toNatClampNeg) (3000 + t1.toNatClampNeg) 0 (cB (fun j => fI H pq j) t0.toNatClampNeg + 1)) ∧ (t0.toInt = pn.toInt ∨ (fI H pq t0.toNatClampNeg).toInt = x1.toInt) ∧ (((cO (fun j => fI H pq j) t0.toNatClampNeg : Nat) : Int) + on.toInt = ((cO (fun j => fI H pq j) pn.toNatClampNeg : Nat) : Int) + t2.toInt) ∧ (dN (mkL (fun j => fI H pq j) t0.toNatClampNeg) = dN (mkL (fun j => fI H pq j) pn.toNatClampNeg)) ∧ TY K G H1) := by
  refine MX.of (by decide +kernel) (Nat.le_of_ble_eq_true rfl) ?_
  intro p e s m below meth c ls Q C hH hl hQ
  subst hH
  have C : CX p K s m _ meth c RX10 cX10_settles 2 none "settles" := C
  obtain ⟨hx, hb, hml, hown, hts, hKT, hr, hlocks, hnm⟩ := id C
  have hl : lv_has ls 2 [(0, .ref a0), (1, .int x1)] := hl
  have hS : va_S (AE G [112, 136, 137] s.heap.size) s.heap s.heap [] := va_S.rf
  have n_0 : (0 : Int32).toInt = 0 := rfl
  have n_1 : (1 : Int32).toInt = 1 := rfl
  have n_9 : (9 : Int32).toInt = 9 := rfl
  have bpn := ty_fi (x := pn) (k := 38) epn hT ga0 rg_112 rfl
  have bmn := ty_fi (x := mn) (k := 35) emn hT ga0 rg_112 rfl
  have bon := ty_fi (x := on) (k := 36) eon hT ga0 rg_112 rfl
  have hap : ∀ x y, x < 74 → y < 74 → x ≠ y → K.1.2 10 x ≠ K.1.2 10 y := x_apart hKT hts inX10 tyX10 tyX10_ok nmX10 rfl
  have mf0 : MF K s.heap s.heap a0 [35, 36, 38] := fun _ _ _ => rfl
  have f0_pe : ∀ j : Nat, fI s.heap pq j = fI s.heap pq j := fun _ => rfl
  have J0 : ∀ (nf : Nat)  (ls406 : Array Slot) (H405 : Heap) (locsH405 : List Loc) (x408 : Int32) (x409 : Int32) (x410 : Int32), lv_has ls406 2 [(0, .ref a0), (1, .int x1)] → TY K G H405 → va_S (AE G [112, 136, 137] s.heap.size) s.heap H405 locsH405 → (0 ≤ x408.toInt ∧ x408.toInt ≤ 40) → (0 ≤ x409.toInt ∧ x409.toInt ≤ 500) → (0 ≤ x410.toInt ∧ x410.toInt ≤ 8) → (x408 = fI H405 a0 (K.1.2 10 38)) → (x409 = fI H405 a0 (K.1.2 10 35)) → (x410 = fI H405 a0 (K.1.2 10 36)) → (oq = fR H405 a0 (K.1.2 10 32)) → (aq = fR H405 a0 (K.1.2 10 33)) → (pq = fR H405 a0 (K.1.2 10 37)) → (∀ j : Nat, j < 3000 + mn.toNatClampNeg → fI H405 oq j = fI s.heap oq j ∧ fI H405 aq j = fI s.heap aq j) → (WF (fun k => fI H405 oq k) (fun k => fI H405 aq k) (3000 + m0.toNatClampNeg) (3000 + x409.toNatClampNeg) 0 (cB (fun j => fI s.heap pq j) x408.toNatClampNeg + 1)) → (MF K s.heap H405 a0 [35, 36, 38]) → (CG (avw K H405 a0)) → (TU (avw K H405 a0) (svw K H405 a0)) → (WD (avw K H405 a0)) → (IM (avw K H405 a0)) → (∀ j : Nat, fI H405 pq j = fI s.heap pq j) → (x408.toInt < (nf : Int)) → (x408.toInt ≤ pn.toInt ∧ x409.toInt + x408.toInt = mn.toInt + pn.toInt ∧ ((x1.toInt = 9 ∧ x410.toInt + pn.toInt = on.toInt + x408.toInt) ∨ (x1.toInt ≠ 9 ∧ x410.toInt = on.toInt))) → (((cO (fun j => fI s.heap pq j) x408.toNatClampNeg : Nat) : Int) ≤ x410.toInt) → (cK (fun j => fI s.heap pq j) x408.toNatClampNeg = cK (fun j => fI s.heap pq j) pn.toNatClampNeg) → (x408.toInt = pn.toInt ∨ (fI s.heap pq x408.toNatClampNeg).toInt = x1.toInt) → (((cO (fun j => fI s.heap pq j) x408.toNatClampNeg : Nat) : Int) + on.toInt = ((cO (fun j => fI s.heap pq j) pn.toNatClampNeg : Nat) : Int) + x410.toInt) → (dN (mkL (fun j => fI s.heap pq j) x408.toNatClampNeg) = dN (mkL (fun j => fI s.heap pq j) pn.toNatClampNeg)) → W p l e ({ frames := 1, cells := 0, slots := 0, locals := 22 } : Room) s m (([.ref a0, .int x1] : List Value).toArray) below meth c H405 locsH405 0 0 Q (F0 m 0 ls406 []) := by
    intro nf
    induction nf with
    | zero =>
      intro  ls406 H405 locsH405 x408 x409 x410 hl407 hTH405 hSH405 bx408 bx409 bx410 ex408 ex409 ex410 cy411_0 cy411_1 cy411_2 by411_pf by411_wf mfy411 gy411_CG gy411_TU gy411_WD gy411_IM fy411_pe hm0 iv0 hJ1 hJ2 hJ3 hJ4 hJ5
      exfalso
      omega
    | succ nf ih0 =>
      intro  ls406 H405 locsH405 x408 x409 x410 hl407 hTH405 hSH405 bx408 bx409 bx410 ex408 ex409 ex410 cy411_0 cy411_1 cy411_2 by411_pf by411_wf mfy411 gy411_CG gy411_TU gy411_WD gy411_IM fy411_pe hm0 iv0 hJ1 hJ2 hJ3 hJ4 hJ5
      refine lv_aload_n hx hb dX10_settles_0 rfl (lv_at hl407 0 rfl) ?_
      refine x_gi C hTH405 (ci := 10) (k := 38) rfl inX10 (by decide) wF_X10_258 ga0 rg_112 rfl dX10_settles_1 (fun x412 ex412 bx412 => ?_)
      have ux412 : x408 = x412 := (ex408).trans ex412.symm
      subst ux412
      refine lv_if_le (tgt := 57) hx hb dX10_settles_4 (by decide) (fun c413 => ?_) (fun c413 => ?_)
      · have k414 := i_le c413
        exact x_vret C hQ dX10_settles_57 hSH405 (by decide) (by decide) (⟨x408, x409, x410, rfl, ex408, ex409, ex410, by omega, cy411_0, cy411_1, cy411_2, gy411_CG, gy411_TU, gy411_WD, gy411_IM, mfy411, by411_pf, hJ1, hJ2, Or.inl (by omega), (WF.castE by411_wf (by omega) (by omega) (by omega)), hJ3, hJ4, hJ5, hTH405⟩)
      · have k414 := i_nle c413
        refine lv_aload_n hx hb dX10_settles_7 rfl (lv_at hl407 0 rfl) ?_
        refine x_gr C hTH405 (ci := 10) (k := 37) rfl inX10 (by decide) wF_X10_89 ga0 rg_112 rfl dX10_settles_8 (fun q415 eq415 gq415 => ?_)
        have uq415 : pq = q415 := (cy411_2).trans eq415.symm
        subst uq415
        refine lv_aload_n hx hb dX10_settles_11 rfl (lv_at hl407 0 rfl) ?_
        refine x_gi C hTH405 (ci := 10) (k := 38) rfl inX10 (by decide) wF_X10_258 ga0 rg_112 rfl dX10_settles_12 (fun x416 ex416 bx416 => ?_)
        have ux416 : x408 = x416 := (ex408).trans ex416.symm
        subst ux416
        refine lv_iconst (v := 1) hx hb dX10_settles_15 (by decide) ?_
        refine lv_isub hx hb dX10_settles_16 ?_
        refine lv_topi (fun x417 ex417 => ?_)
        have tx417 := i_sub ex417 (by omega)
        refine x_ai C hTH405 gpq rg_138 ⟨by omega, by show _ < ((40 : Nat) : Int); omega⟩ dX10_settles_17 (fun x418 ex418 bx418 => ?_)
        have hprx418 : x418.toInt = (fI s.heap pq x417.toNatClampNeg).toInt := by rw [ex418, fy411_pe]
        refine lv_iload_n hx hb dX10_settles_18 rfl (lv_at hl407 1 rfl) ?_
        refine lv_icmp_ne (tgt := 57) hx hb dX10_settles_19 (by decide) (fun c419 => ?_) (fun c419 => ?_)
        · have k420 := i_ne c419
          have cq_x408 := i_cl (x := x408) (by omega)
          have cq_x417 := i_cl (x := x417) (by omega)
          rw [show x417.toNatClampNeg = x408.toNatClampNeg - 1 by omega] at hprx418
          exact x_vret C hQ dX10_settles_57 hSH405 (by decide) (by decide) (⟨x408, x409, x410, rfl, ex408, ex409, ex410, by omega, cy411_0, cy411_1, cy411_2, gy411_CG, gy411_TU, gy411_WD, gy411_IM, mfy411, by411_pf, hJ1, hJ2, Or.inr (by omega), (WF.castE by411_wf (by omega) (by omega) (by omega)), hJ3, hJ4, hJ5, hTH405⟩)
        · have k420 := i_eq c419
          refine lv_aload_n hx hb dX10_settles_22 rfl (lv_at hl407 0 rfl) ?_
          refine lv_aload_n hx hb dX10_settles_23 rfl (lv_at hl407 0 rfl) ?_
          refine x_gi C hTH405 (ci := 10) (k := 38) rfl inX10 (by decide) wF_X10_258 ga0 rg_112 rfl dX10_settles_24 (fun x421 ex421 bx421 => ?_)
          have ux421 : x408 = x421 := (ex408).trans ex421.symm
          subst ux421
          refine lv_iconst (v := 1) hx hb dX10_settles_27 (by decide) ?_
          refine lv_isub hx hb dX10_settles_28 ?_
          refine lv_topi (fun x422 ex422 => ?_)
          have tx422 := i_sub ex422 (by omega)
          refine x_put C hTH405 hSH405 (ci := 10) (k := 38) (v := .int x422) (ty0 := tyX10) rfl inX10 tyX10_ok nmX10 (by decide) rfl wF_X10_258 ga0 rg_112 rfl rfl (okI (by have := i_rng x422; omega) (by have := i_rng x422; omega)) rfl rfl (AE_in ga0 (by decide)) dX10_settles_29 (fun H423 locsH423 hTH423 hSH423 wH423 => ?_)
          have mf424 : MF K s.heap H423 a0 [35, 36, 38] := MF.fld hap wH423 (by decide) (by decide) mfy411
          have g425 : CG (avw K H423 a0) := CG.congr (fun k hk j => av_fld hTH405 ga0 hap wH423 (by decide) (CG_ok 112 (by decide) k hk) (CG_ne 38 (by decide) k hk)) gy411_CG
          have g426 : TU (avw K H423 a0) (svw K H423 a0) := TU.congr (fun k hk j => av_fld hTH405 ga0 hap wH423 (by decide) (TU_ok 112 (by decide) k hk) (TU_ne 38 (by decide) k hk)) (fun k hk => sv_fld hap wH423 (by decide) (TU_slt k hk) (TU_sne 38 (by decide) k hk)) gy411_TU
          have g427 : WD (avw K H423 a0) := WD.congr (fun k hk j => av_fld hTH405 ga0 hap wH423 (by decide) (WD_ok 112 (by decide) k hk) (WD_ne 38 (by decide) k hk)) gy411_WD
          have g428 : IM (avw K H423 a0) := IM.congr (fun k hk j => av_fld hTH405 ga0 hap wH423 (by decide) (IM_ok 112 (by decide) k hk) (IM_ne 38 (by decide) k hk)) gy411_IM
          have b429 : ∀ j : Nat, j < 3000 + mn.toNatClampNeg → fI H423 oq j = fI s.heap oq j ∧ fI H423 aq j = fI s.heap aq j := fun j hj => ⟨(Wr.neI wH423 (Or.inl (G_ne goq ga0 (by decide)))).trans (by411_pf j hj).1, (Wr.neI wH423 (Or.inl (G_ne gaq ga0 (by decide)))).trans (by411_pf j hj).2⟩
          have b430 : WF (fun k => fI H423 oq k) (fun k => fI H423 aq k) (3000 + m0.toNatClampNeg) (3000 + x409.toNatClampNeg) 0 (cB (fun j => fI s.heap pq j) x408.toNatClampNeg + 1) := WF.congr (fun j => Wr.neI wH423 (Or.inl (G_ne goq ga0 (by decide)))) (fun j => Wr.neI wH423 (Or.inl (G_ne gaq ga0 (by decide)))) by411_wf
          have f431 : ∀ j : Nat, fI H423 pq j = fI s.heap pq j := fun j => (Wr.neI wH423 (Or.inl (G_ne gpq ga0 (by decide)))).trans (fy411_pe j)
          have m433 := ex409.trans (Wr.neI wH423 (Or.inr (x_apart hKT hts inX10 tyX10 tyX10_ok nmX10 rfl 35 38 (by decide) (by decide) (by decide)))).symm
          have m434 := ex410.trans (Wr.neI wH423 (Or.inr (x_apart hKT hts inX10 tyX10 tyX10_ok nmX10 rfl 36 38 (by decide) (by decide) (by decide)))).symm
          have m435 := cy411_0.trans (Wr.neR wH423 (Or.inr (x_apart hKT hts inX10 tyX10 tyX10_ok nmX10 rfl 32 38 (by decide) (by decide) (by decide)))).symm
          have m436 := cy411_1.trans (Wr.neR wH423 (Or.inr (x_apart hKT hts inX10 tyX10 tyX10_ok nmX10 rfl 33 38 (by decide) (by decide) (by decide)))).symm
          have m437 := cy411_2.trans (Wr.neR wH423 (Or.inr (x_apart hKT hts inX10 tyX10 tyX10_ok nmX10 rfl 37 38 (by decide) (by decide) (by decide)))).symm
          have m438 := ex418.trans (Wr.neI wH423 (Or.inl (G_ne gpq ga0 (by decide)))).symm
          have m439 := Wr.I wH423
          have m439 := m439.symm
          refine lv_aload_n hx hb dX10_settles_32 rfl (lv_at hl407 0 rfl) ?_
          refine lv_iload_n hx hb dX10_settles_33 rfl (lv_at hl407 1 rfl) ?_
          refine lv_iconst (v := 0) hx hb dX10_settles_34 (by decide) ?_
          refine x_V (As := [.int x1, .int 0]) (rest := []) C (a_X10_emits l K G H423 (x1) (0) (x409) hTH423 ga0 goq m435 gaq m436 m433 g425 g426 g427 g428 (by omega)) yo_X10_emits wM_X10_238 ⟨⟨by decide, by decide⟩, by decide, by decide⟩ (x_rv C hTH423 (ci := 10) rfl ga0 rg_112) rfl hl407.1 rfl (Nat.le_of_ble_eq_true rfl) dX10_settles_35 hSH423 (AE_sub (fun _ _ => rfl) (by decide) hSH423.1) (fun vH440 H440 locsH440 pH440 zH440 kH440 hSH440 => ?_)
          obtain ⟨x441, hvH440, ex441, hrH440, m442, m443, g444, g445, g446, g447, mf448, m449, m450, m451, m452, hTH440⟩ := pH440
          subst hvH440
          have f453 : ∀ j : Nat, fI H440 pq j = fI s.heap pq j := fun j => (fI_kept (x_lt hTH423 kH440 gpq (by decide))).trans (f431 j)
          have m454 := (m438).trans (fI_kept (x_lt hTH423 kH440 gpq (by decide))).symm
          have m455 := (m434).trans (MF.i mf448 (k := 36) (by decide) (by decide)).symm
          have m456 := (m435).trans (MF.r mf448 (k := 32) (by decide) (by decide)).symm
          have m457 := (m436).trans (MF.r mf448 (k := 33) (by decide) (by decide)).symm
          have m458 := (m437).trans (MF.r mf448 (k := 37) (by decide) (by decide)).symm
          have m459 := (m439).trans (MF.i mf448 (k := 38) (by decide) (by decide)).symm
          have mf460 : MF K s.heap H440 a0 [35, 36, 38] := MF.trans mf424 mf448 (by decide)
          have bx441 := ty_fi (x := x441) (k := 35) ex441 hTH440 ga0 rg_112 rfl
          have cem452 := i_cl (x := x409) (by omega)
          have ce_mn := i_cl (x := mn) (by omega)
          have b461 : ∀ j : Nat, j < 3000 + mn.toNatClampNeg → fI H440 oq j = fI s.heap oq j ∧ fI H440 aq j = fI s.heap aq j := fun j hj => ⟨(m451 j (by omega)).trans (b429 j hj).1, (m452 j (by omega)).trans (b429 j hj).2⟩
          have ce_m0 := i_cl (x := m0) (by omega)
          have ce_x408 := i_cl (x := x408) (by omega)
          have b462 : WF (fun k => fI H440 oq k) (fun k => fI H440 aq k) (3000 + m0.toNatClampNeg) (3000 + x409.toNatClampNeg) 0 (cB (fun j => fI s.heap pq j) x408.toNatClampNeg + 1) := WF.keep b430 (fun j hj => m451 j (by omega)) (fun j hj => m452 j (by omega))
          refine W.eq (g2 := F0 m 38 ls406 []) rfl ?_
          have ho := congrArg Int32.toInt m449
          have cz_m0 := i_cl (x := m0) (by omega)
          have cz_x408 := i_cl (x := x408) (by omega)
          have cz_x409 := i_cl (x := x409) (by omega)
          have cz_x417 := i_cl (x := x417) (by omega)
          have cz_x422 := i_cl (x := x422) (by omega)
          have hst := c_step (f := (fun j => fI s.heap pq j)) (n := x422.toNatClampNeg) (m := x408.toNatClampNeg) (by omega)
          rw [show x417.toNatClampNeg = x422.toNatClampNeg by omega] at hprx418
          have wn : WF (fun k => fI H440 oq k) (fun k => fI H440 aq k) (3000 + m0.toNatClampNeg) (3000 + x409.toNatClampNeg + 1) 0 (cB (fun j => fI s.heap pq j) x422.toNatClampNeg + 1) := WF.stp b462 (by omega) (by show ((fI _ oq _).toInt = 9 ∧ _) ∨ (2 ≤ (fI _ oq _).toInt ∧ (fI _ oq _).toInt ≤ 11 ∧ (fI _ oq _).toInt ≠ 9 ∧ _ ∧ _ ∧ ((fI _ oq _).toInt ≠ 5 ∨ _)); omega)
          refine lv_iload_n hx hb dX10_settles_38 rfl (lv_at hl407 1 rfl) ?_
          refine lv_bipush (v := 9) hx hb dX10_settles_39 (by decide) ?_
          refine lv_icmp_ne (tgt := 0) hx hb dX10_settles_41 (by decide) (fun c463 => ?_) (fun c463 => ?_)
          · have k464 := i_ne c463
            have cl_mn := i_cl (x := mn) (by omega)
            have cl_m0 := i_cl (x := m0) (by omega)
            have cl_x409 := i_cl (x := x409) (by omega)
            have cl_x422 := i_cl (x := x422) (by omega)
            have cl_x441 := i_cl (x := x441) (by omega)
            exact ih0  ls406 H440 locsH440 (x422) (x441) (x410) (lv_sub hl407 [0, 1] rfl) hTH440 hSH440 (by have := i_rng x422; omega) (by have := i_rng x441; omega) (by have := i_rng x410; omega) m459 ex441 m455 m442 m443 m458 b461 (WF.castE wn (by omega) (by omega) (by omega)) mf460 g444 g445 g446 g447 f453 (by omega) (by omega) (by omega) (by omega) (by omega) (by omega) ((dN_step (f := (fun j => fI s.heap pq j)) (n := x422.toNatClampNeg) (m := x408.toNatClampNeg) (by omega) (by show (fI _ pq _).toInt ≠ 12; omega)).symm.trans hJ5)
          · have k464 := i_eq c463
            refine lv_aload_n hx hb dX10_settles_44 rfl (lv_at hl407 0 rfl) ?_
            refine lv_aload_n hx hb dX10_settles_45 rfl (lv_at hl407 0 rfl) ?_
            refine x_gi C hTH440 (ci := 10) (k := 36) rfl inX10 (by decide) wF_X10_261 ga0 rg_112 rfl dX10_settles_46 (fun x465 ex465 bx465 => ?_)
            have ux465 : x410 = x465 := (m455).trans ex465.symm
            subst ux465
            refine lv_iconst (v := 1) hx hb dX10_settles_49 (by decide) ?_
            refine lv_isub hx hb dX10_settles_50 ?_
            refine lv_topi (fun x466 ex466 => ?_)
            have tx466 := i_sub ex466 (by omega)
            have fz468 : 0 ≤ x466.toInt ∧ x466.toInt ≤ 8 := by have := i_rng x466; omega
            refine x_put C hTH440 hSH440 (ci := 10) (k := 36) (v := .int x466) (ty0 := tyX10) rfl inX10 tyX10_ok nmX10 (by decide) rfl wF_X10_261 ga0 rg_112 rfl rfl (okI (by have := i_rng x466; omega) (by have := i_rng x466; omega)) rfl rfl (AE_in ga0 (by decide)) dX10_settles_51 (fun H467 locsH467 hTH467 hSH467 wH467 => ?_)
            have mf469 : MF K s.heap H467 a0 [35, 36, 38] := MF.fld hap wH467 (by decide) (by decide) mf460
            have g470 : CG (avw K H467 a0) := CG.congr (fun k hk j => av_fld hTH440 ga0 hap wH467 (by decide) (CG_ok 112 (by decide) k hk) (CG_ne 36 (by decide) k hk)) g444
            have g471 : TU (avw K H467 a0) (svw K H467 a0) := TU.congr (fun k hk j => av_fld hTH440 ga0 hap wH467 (by decide) (TU_ok 112 (by decide) k hk) (TU_ne 36 (by decide) k hk)) (fun k hk => sv_fld hap wH467 (by decide) (TU_slt k hk) (TU_sne 36 (by decide) k hk)) g445
            have g472 : WD (avw K H467 a0) := WD.congr (fun k hk j => av_fld hTH440 ga0 hap wH467 (by decide) (WD_ok 112 (by decide) k hk) (WD_ne 36 (by decide) k hk)) g446
            have g473 : IM (avw K H467 a0) := IM.congr (fun k hk j => av_fld hTH440 ga0 hap wH467 (by decide) (IM_ok 112 (by decide) k hk) (IM_ne 36 (by decide) k hk)) g447
            have b474 : ∀ j : Nat, j < 3000 + mn.toNatClampNeg → fI H467 oq j = fI s.heap oq j ∧ fI H467 aq j = fI s.heap aq j := fun j hj => ⟨(Wr.neI wH467 (Or.inl (G_ne goq ga0 (by decide)))).trans (b461 j hj).1, (Wr.neI wH467 (Or.inl (G_ne gaq ga0 (by decide)))).trans (b461 j hj).2⟩
            have b475 : WF (fun k => fI H467 oq k) (fun k => fI H467 aq k) (3000 + m0.toNatClampNeg) (3000 + x409.toNatClampNeg + 1) 0 (cB (fun j => fI s.heap pq j) x422.toNatClampNeg + 1) := WF.congr (fun j => Wr.neI wH467 (Or.inl (G_ne goq ga0 (by decide)))) (fun j => Wr.neI wH467 (Or.inl (G_ne gaq ga0 (by decide)))) wn
            have f476 : ∀ j : Nat, fI H467 pq j = fI s.heap pq j := fun j => (Wr.neI wH467 (Or.inl (G_ne gpq ga0 (by decide)))).trans (f453 j)
            have m477 := m454.trans (Wr.neI wH467 (Or.inl (G_ne gpq ga0 (by decide)))).symm
            have m479 := m442.trans (Wr.neR wH467 (Or.inr (x_apart hKT hts inX10 tyX10 tyX10_ok nmX10 rfl 32 36 (by decide) (by decide) (by decide)))).symm
            have m480 := m443.trans (Wr.neR wH467 (Or.inr (x_apart hKT hts inX10 tyX10 tyX10_ok nmX10 rfl 33 36 (by decide) (by decide) (by decide)))).symm
            have m481 := m458.trans (Wr.neR wH467 (Or.inr (x_apart hKT hts inX10 tyX10 tyX10_ok nmX10 rfl 37 36 (by decide) (by decide) (by decide)))).symm
            have m482 := m459.trans (Wr.neI wH467 (Or.inr (x_apart hKT hts inX10 tyX10 tyX10_ok nmX10 rfl 38 36 (by decide) (by decide) (by decide)))).symm
            have m483 := ex441.trans (Wr.neI wH467 (Or.inr (x_apart hKT hts inX10 tyX10 tyX10_ok nmX10 rfl 35 36 (by decide) (by decide) (by decide)))).symm
            have m484 := Wr.I wH467
            have m484 := m484.symm
            refine lv_goto (tgt := 0) hx hb dX10_settles_54 (by decide) ?_
            have cl_mn := i_cl (x := mn) (by omega)
            have cl_m0 := i_cl (x := m0) (by omega)
            have cl_x409 := i_cl (x := x409) (by omega)
            have cl_x422 := i_cl (x := x422) (by omega)
            have cl_x441 := i_cl (x := x441) (by omega)
            exact ih0  ls406 H467 locsH467 (x422) (x441) (x466) (lv_sub hl407 [0, 1] rfl) hTH467 hSH467 (by have := i_rng x422; omega) (by have := i_rng x441; omega) (by have := i_rng x466; omega) m482 m483 m484 m479 m480 m481 b474 (WF.castE b475 (by omega) (by omega) (by omega)) mf469 g470 g471 g472 g473 f476 (by omega) (by omega) (by omega) (by omega) (by omega) (by omega) ((dN_step (f := (fun j => fI s.heap pq j)) (n := x422.toNatClampNeg) (m := x408.toNatClampNeg) (by omega) (by show (fI _ pq _).toInt ≠ 12; omega)).symm.trans hJ5)
  have pf00 : ∀ j : Nat, j < 3000 + mn.toNatClampNeg → fI s.heap oq j = fI s.heap oq j ∧ fI s.heap aq j = fI s.heap aq j := fun _ _ => ⟨rfl, rfl⟩
  have hmn := i_cl (x := mn) (by omega)
  have cl_mn := i_cl (x := mn) (by omega)
  have cl_m0 := i_cl (x := m0) (by omega)
  have cl_mn := i_cl (x := mn) (by omega)
  have cl_pn := i_cl (x := pn) (by omega)
  exact J0 ((pn.toInt).toNat + 1)  ls s.heap [] (pn) (mn) (on) (lv_sub hl [0, 1] rfl) hT hS (by have := i_rng pn; omega) (by have := i_rng mn; omega) (by have := i_rng on; omega) epn emn eon eoq eaq epq pf00 (WF.castE hb_wf (by omega) (by omega) (by omega)) mf0 hg_CG hg_TU hg_WD hg_IM f0_pe (by omega) (by omega) hy1 rfl (Or.inl rfl) rfl rfl
