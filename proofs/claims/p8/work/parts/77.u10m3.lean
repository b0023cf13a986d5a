/-! ===== the reference's cursor ===== -/
def CU (b : Nat → Int) (L i : Nat) (fr sp tk vl : Int32) : Prop := skB b L (pS b L i) = fr.toNatClampNeg ∧ pS b L (i + 1) = sp.toNatClampNeg ∧ TV (kK b L i) (vV b L i) tk.toInt vl.toInt ∧ i ≤ fr.toNatClampNeg
theorem CU.next {b : Nat → Int} {L i : Nat} {fr sp tk vl fr1 sp1 tk1 vl1 : Int32} (h : CU b L i fr sp tk vl) (r1 : skB b L sp.toNatClampNeg = fr1.toNatClampNeg) (r2 : tkN b L (skB b L sp.toNatClampNeg) = sp1.toNatClampNeg) (r3 : TV (tkK b L (skB b L sp.toNatClampNeg)) (tkV b L (skB b L sp.toNatClampNeg)) tk1.toInt vl1.toInt) (hb : fr.toNatClampNeg < fr1.toNatClampNeg) : CU b L (i + 1) fr1 sp1 tk1 vl1 := by
  obtain ⟨_, e, _, h4⟩ := h
  rw [← e] at r1 r2 r3
  exact ⟨r1, r2, r3, by omega⟩
theorem TV.sg {k v t x c : Int} (h : TV k v t x) (hc : 27 ≤ c) : (t = 4 ∧ x = c) ↔ k = c := by
  rcases h with ⟨a, e⟩ | ⟨a, e⟩ | ⟨e, a⟩ | ⟨a, e, _⟩ | ⟨a, e, f⟩ <;> constructor <;> intro h <;> omega
theorem TV.nm {k v t x : Int} (h : TV k v t x) : t = 3 ↔ k = 24 := by
  rcases h with ⟨a, e⟩ | ⟨a, e⟩ | ⟨e, a⟩ | ⟨a, e, _⟩ | ⟨a, e, f⟩ <;> constructor <;> intro h <;> omega
theorem TV.nv {k v t x : Int} (h : TV k v t x) (e3 : t = 3) : x = v := by
  rcases h with ⟨a, e⟩ | ⟨a, e⟩ | ⟨e, a⟩ | ⟨a, e, f⟩ | ⟨a, e, f⟩ <;> omega
/-- a word of the reference by the class's number -/
theorem TV.wd {k v t x : Int} (h : TV k v t x) : t = 2 ↔ (0 ≤ k ∧ k ≤ 23) := by
  rcases h with ⟨a, e⟩ | ⟨a, e⟩ | ⟨e, a⟩ | ⟨a, e, _⟩ | ⟨a, e, f⟩ <;> constructor <;> intro h <;> omega
theorem TV.wv {k v t x : Int} (h : TV k v t x) (e2 : t = 2) : (0 ≤ k ∧ k ≤ 5 ∧ x = k) ∨ (k = 6 ∧ x = 17) ∨ (7 ≤ k ∧ k ≤ 17 ∧ x = k - 1) ∨ (18 ≤ k ∧ k ≤ 23 ∧ x = k) := by
  rcases h with ⟨a, e⟩ | ⟨a, e⟩ | ⟨e, a⟩ | ⟨a, e, _⟩ | ⟨a, e, f⟩
  · omega
  · omega
  · exact a
  · omega
  · omega
/-- what a reading of the reference answers: r and where it stands -/
def RC (o : Option Nat) (r : Int32) (b : Nat → Int) (L : Nat) (fr sp tk vl : Int32) : Prop := (o = none ∧ r.toInt = -1) ∨ ∃ j : Nat, o = some j ∧ r.toInt ≠ -1 ∧ CU b L j fr sp tk vl
theorem RC.no {o : Option Nat} {r : Int32} {b : Nat → Int} {L : Nat} {fr sp tk vl : Int32} (h : RC o r b L fr sp tk vl) (e : r.toInt = -1) : o = none := h.elim (fun z => z.1) (fun ⟨_, _, z, _⟩ => absurd e z)
theorem RC.yes {o : Option Nat} {r : Int32} {b : Nat → Int} {L : Nat} {fr sp tk vl : Int32} (h : RC o r b L fr sp tk vl) (e : r.toInt ≠ -1) : ∃ j : Nat, o = some j ∧ CU b L j fr sp tk vl := h.elim (fun z => absurd z.2 e) (fun ⟨j, h1, _, h3⟩ => ⟨j, h1, h3⟩)
/-- one unit -/
def unI (kk : Nat → Int) (lw : Int) (i : Nat) : Option Nat := if kk i ≠ 24 ∧ ((lw = 0 ∨ (kk i ≠ 6 ∧ (kk i < 11 ∨ 19 < kk i))) ∧ (lw ≠ 0 ∨ kk i < 20 ∨ 23 < kk i)) then none else some (i + 1)
/-- behind a unit -/
def tbI (kk vv : Nat → Int) (lw : Int) (j : Nat) : Option Nat := if kk j = 42 ∨ kk j = 47 then tmI kk vv lw (kk j) (j + 1) else some j
theorem tm_un0 {kk vv : Nat → Int} {lw : Int} {i : Nat} (h : i ≤ 900) (hu : unI kk lw i = none) : tmI kk vv lw 0 i = none := by
  unfold unI at hu
  split at hu
  · rename_i c; rw [tmI_eq h, if_pos ⟨c.1, Or.inr c.2⟩]
  · cases hu
theorem tm_un1 {kk vv : Nat → Int} {lw : Int} {i j : Nat} (h : i ≤ 900) (hu : unI kk lw i = some j) : tmI kk vv lw 0 i = tbI kk vv lw j := by
  unfold unI at hu
  split at hu
  · cases hu
  · rename_i c
    cases hu
    rw [tmI_eq h, if_neg (fun z => c ⟨z.1, z.2.resolve_left (by decide)⟩), if_neg (fun z => by have := z.1; omega)]
    rfl
theorem tb_end {kk vv : Nat → Int} {lw : Int} {j : Nat} (h : kk j ≠ 42 ∧ kk j ≠ 47) : tbI kk vv lw j = some j := if_neg (by omega)
/-- times a unit -/
theorem tb_t0 {kk vv : Nat → Int} {lw : Int} {j : Nat} (hj : j ≤ 800) (h : kk j = 42) (hu : unI kk lw (j + 1) = none) : tbI kk vv lw j = none := by
  unfold unI at hu
  split at hu
  · rename_i c
    unfold tbI
    rw [if_pos (Or.inl h), tmI_eq (by omega), if_pos ⟨c.1, Or.inr c.2⟩]
  · cases hu
theorem tb_t1 {kk vv : Nat → Int} {lw : Int} {j m : Nat} (hj : j ≤ 800) (h : kk j = 42) (hu : unI kk lw (j + 1) = some m) : tbI kk vv lw j = tbI kk vv lw m := by
  unfold unI at hu
  split at hu
  · cases hu
  · rename_i c
    cases hu
    rw [show tbI kk vv lw j = tmI kk vv lw (kk j) (j + 1) from if_pos (Or.inl h), tmI_eq (by omega), if_neg (fun z => c ⟨z.1, z.2.resolve_left (by omega)⟩), if_neg (fun z => by have := z.1; omega)]
    rfl
/-- by a number -/
theorem tb_d0 {kk vv : Nat → Int} {lw : Int} {j : Nat} (hj : j ≤ 800) (h : kk j = 47) (hn : kk (j + 1) ≠ 24 ∨ (kk (j + 1) = 24 ∧ vv (j + 1) = 0)) : tbI kk vv lw j = none := by
  rw [show tbI kk vv lw j = tmI kk vv lw (kk j) (j + 1) from if_pos (Or.inr h), tmI_eq (by omega)]
  rcases hn with hn | ⟨hn, hz⟩
  · rw [if_pos ⟨hn, Or.inl h⟩]
  · rw [if_neg (fun z => z.1 hn), if_pos ⟨h, hz⟩]
theorem tb_d1 {kk vv : Nat → Int} {lw : Int} {j : Nat} (hj : j ≤ 800) (h : kk j = 47) (hn : kk (j + 1) = 24) (hz : vv (j + 1) ≠ 0) : tbI kk vv lw j = tbI kk vv lw (j + 2) := by
  rw [show tbI kk vv lw j = tmI kk vv lw (kk j) (j + 1) from if_pos (Or.inr h), tmI_eq (by omega), if_neg (fun z => z.1 hn), if_neg (fun z => hz z.2)]
  rfl
theorem un_nm {kk : Nat → Int} {lw : Int} {i : Nat} (h : kk i = 24) : unI kk lw i = some (i + 1) := if_neg (fun z => z.1 h)
theorem un_at {kk : Nat → Int} {lw : Int} {i j : Nat} (h : unI kk lw i = some j) : j = i + 1 := by
  unfold unI at h
  split at h
  · cases h
  · cases h; rfl
set_option maxHeartbeats 4000000 in
set_option maxRecDepth 100000 in
theorem a_X10_isWord_e (l : Launch) (K : KE) (G : Nat → Option Nat) (H : Heap) {a0 : Nat} (x1 : Int32) (tk : Int32) (vl : Int32) (hT : TY K G H) (ga0 : G a0 = some 112) (etk : tk = fI H a0 (K.1.2 10 21)) (evl : vl = fI H a0 (K.1.2 10 22)) : MX l K yX10_isWord cX10_isWord 2 (some .boolean) 0 0 0 0 [.ref a0, .int x1] H (AE G [] H.size) (fun v H1 => ∃ (r : Int32), v = some (.int r) ∧ (0 ≤ r.toInt ∧ r.toInt ≤ 1) ∧ ((r.toInt = 0 ∧ (tk.toInt ≠ 2 ∨ vl.toInt ≠ x1.toInt)) ∨ (r.toInt = 1 ∧ tk.toInt = 2 ∧ vl.toInt = x1.toInt)) ∧ TY K G H1) := by
  refine MX.of (by decide +kernel) (Nat.le_of_ble_eq_true rfl) ?_
  intro p e s m below meth c ls Q C hH hl hQ
  subst hH
  have C : CX p K s m _ meth c RX10 cX10_isWord 2 (some .boolean) "isWord" := C
  obtain ⟨hx, hb, hml, hown, hts, hKT, hr, hlocks, hnm⟩ := id C
  have hl : lv_has ls 2 [(0, .ref a0), (1, .int x1)] := hl
  have hS : va_S (AE G [] s.heap.size) s.heap s.heap [] := va_S.rf
  have n_0 : (0 : Int32).toInt = 0 := rfl
  have n_1 : (1 : Int32).toInt = 1 := rfl
  have n_2 : (2 : Int32).toInt = 2 := rfl
  have btk := ty_fi (x := tk) (k := 21) etk hT ga0 rg_112 rfl
  have bvl := ty_fi (x := vl) (k := 22) evl hT ga0 rg_112 rfl
  have hap : ∀ x y, x < 74 → y < 74 → x ≠ y → K.1.2 10 x ≠ K.1.2 10 y := x_apart hKT hts inX10 tyX10 tyX10_ok nmX10 rfl
  refine lv_aload_n hx hb dX10_isWord_0 rfl (lv_at hl 0 rfl) ?_
  refine x_gi C hT (ci := 10) (k := 21) rfl inX10 (by decide) wF_X10_202 ga0 rg_112 rfl dX10_isWord_1 (fun x125 ex125 bx125 => ?_)
  have ux125 : tk = x125 := (etk).trans ex125.symm
  subst ux125
  refine lv_iconst (v := 2) hx hb dX10_isWord_4 (by decide) ?_
  refine lv_icmp_ne (tgt := 20) hx hb dX10_isWord_5 (by decide) (fun c126 => ?_) (fun c126 => ?_)
  · have k127 := i_ne c126
    refine lv_iconst (v := 0) hx hb dX10_isWord_20 (by decide) ?_
    exact x_zret C hQ (Or.inl rfl) dX10_isWord_21 hS (by decide) (by decide) (⟨0, rfl, by decide, by omega, hT⟩)
  · have k127 := i_eq c126
    refine lv_aload_n hx hb dX10_isWord_8 rfl (lv_at hl 0 rfl) ?_
    refine x_gi C hT (ci := 10) (k := 22) rfl inX10 (by decide) wF_X10_205 ga0 rg_112 rfl dX10_isWord_9 (fun x128 ex128 bx128 => ?_)
    have ux128 : vl = x128 := (evl).trans ex128.symm
    subst ux128
    refine lv_iload_n hx hb dX10_isWord_12 rfl (lv_at hl 1 rfl) ?_
    refine lv_icmp_ne (tgt := 20) hx hb dX10_isWord_13 (by decide) (fun c129 => ?_) (fun c129 => ?_)
    · have k130 := i_ne c129
      refine lv_iconst (v := 0) hx hb dX10_isWord_20 (by decide) ?_
      exact x_zret C hQ (Or.inl rfl) dX10_isWord_21 hS (by decide) (by decide) (⟨0, rfl, by decide, by omega, hT⟩)
    · have k130 := i_eq c129
      refine lv_iconst (v := 1) hx hb dX10_isWord_16 (by decide) ?_
      refine lv_goto (tgt := 21) hx hb dX10_isWord_17 (by decide) ?_
      exact x_zret C hQ (Or.inr rfl) dX10_isWord_21 hS (by decide) (by decide) (⟨1, rfl, by decide, by omega, hT⟩)

set_option maxHeartbeats 4000000 in
set_option maxRecDepth 100000 in
theorem a_X10_isSign_e (l : Launch) (K : KE) (G : Nat → Option Nat) (H : Heap) {a0 : Nat} (x1 : Int32) (tk : Int32) (vl : Int32) (hT : TY K G H) (ga0 : G a0 = some 112) (etk : tk = fI H a0 (K.1.2 10 21)) (evl : vl = fI H a0 (K.1.2 10 22)) : MX l K yX10_isSign cX10_isSign 2 (some .boolean) 0 0 0 0 [.ref a0, .int x1] H (AE G [] H.size) (fun v H1 => ∃ (r : Int32), v = some (.int r) ∧ (0 ≤ r.toInt ∧ r.toInt ≤ 1) ∧ ((r.toInt = 0 ∧ (tk.toInt ≠ 4 ∨ vl.toInt ≠ x1.toInt)) ∨ (r.toInt = 1 ∧ tk.toInt = 4 ∧ vl.toInt = x1.toInt)) ∧ TY K G H1) := by
  refine MX.of (by decide +kernel) (Nat.le_of_ble_eq_true rfl) ?_
  intro p e s m below meth c ls Q C hH hl hQ
  subst hH
  have C : CX p K s m _ meth c RX10 cX10_isSign 2 (some .boolean) "isSign" := C
  obtain ⟨hx, hb, hml, hown, hts, hKT, hr, hlocks, hnm⟩ := id C
  have hl : lv_has ls 2 [(0, .ref a0), (1, .int x1)] := hl
  have hS : va_S (AE G [] s.heap.size) s.heap s.heap [] := va_S.rf
  have n_0 : (0 : Int32).toInt = 0 := rfl
  have n_1 : (1 : Int32).toInt = 1 := rfl
  have n_4 : (4 : Int32).toInt = 4 := rfl
  have btk := ty_fi (x := tk) (k := 21) etk hT ga0 rg_112 rfl
  have bvl := ty_fi (x := vl) (k := 22) evl hT ga0 rg_112 rfl
  have hap : ∀ x y, x < 74 → y < 74 → x ≠ y → K.1.2 10 x ≠ K.1.2 10 y := x_apart hKT hts inX10 tyX10 tyX10_ok nmX10 rfl
  refine lv_aload_n hx hb dX10_isSign_0 rfl (lv_at hl 0 rfl) ?_
  refine x_gi C hT (ci := 10) (k := 21) rfl inX10 (by decide) wF_X10_202 ga0 rg_112 rfl dX10_isSign_1 (fun x125 ex125 bx125 => ?_)
  have ux125 : tk = x125 := (etk).trans ex125.symm
  subst ux125
  refine lv_iconst (v := 4) hx hb dX10_isSign_4 (by decide) ?_
  refine lv_icmp_ne (tgt := 20) hx hb dX10_isSign_5 (by decide) (fun c126 => ?_) (fun c126 => ?_)
  · have k127 := i_ne c126
    refine lv_iconst (v := 0) hx hb dX10_isSign_20 (by decide) ?_
    exact x_zret C hQ (Or.inl rfl) dX10_isSign_21 hS (by decide) (by decide) (⟨0, rfl, by decide, by omega, hT⟩)
  · have k127 := i_eq c126
    refine lv_aload_n hx hb dX10_isSign_8 rfl (lv_at hl 0 rfl) ?_
    refine x_gi C hT (ci := 10) (k := 22) rfl inX10 (by decide) wF_X10_205 ga0 rg_112 rfl dX10_isSign_9 (fun x128 ex128 bx128 => ?_)
    have ux128 : vl = x128 := (evl).trans ex128.symm
    subst ux128
    refine lv_iload_n hx hb dX10_isSign_12 rfl (lv_at hl 1 rfl) ?_
    refine lv_icmp_ne (tgt := 20) hx hb dX10_isSign_13 (by decide) (fun c129 => ?_) (fun c129 => ?_)
    · have k130 := i_ne c129
      refine lv_iconst (v := 0) hx hb dX10_isSign_20 (by decide) ?_
      exact x_zret C hQ (Or.inl rfl) dX10_isSign_21 hS (by decide) (by decide) (⟨0, rfl, by decide, by omega, hT⟩)
    · have k130 := i_eq c129
      refine lv_iconst (v := 1) hx hb dX10_isSign_16 (by decide) ?_
      refine lv_goto (tgt := 21) hx hb dX10_isSign_17 (by decide) ?_
      exact x_zret C hQ (Or.inr rfl) dX10_isSign_21 hS (by decide) (by decide) (⟨1, rfl, by decide, by omega, hT⟩)

set_option maxHeartbeats 4000000 in
set_option maxRecDepth 100000 in
theorem a_X10_readUnit_e (l : Launch) (K : KE) (G : Nat → Option Nat) (H : Heap) {a0 : Nat} {oq : Nat} {aq : Nat} {tq : Nat} (sp : Int32) (fr : Int32) (tk : Int32) (vl : Int32) (mn : Int32) (tp : Int32) (jb : Int32) (ci : Nat) (bt : Nat → Int) (hT : TY K G H) (ga0 : G a0 = some 112) (goq : G oq = some 136) (eoq : oq = fR H a0 (K.1.2 10 32)) (gaq : G aq = some 137) (eaq : aq = fR H a0 (K.1.2 10 33)) (gtq : G tq = some 126) (etq : tq = fR H a0 (K.1.2 10 17)) (esp : sp = fI H a0 (K.1.2 10 19)) (efr : fr = fI H a0 (K.1.2 10 20)) (etk : tk = fI H a0 (K.1.2 10 21)) (evl : vl = fI H a0 (K.1.2 10 22)) (emn : mn = fI H a0 (K.1.2 10 35)) (etp : tp = fI H a0 (K.1.2 10 18)) (ejb : jb = fI H a0 (K.1.2 10 34)) (hg_CG : CG (avw K H a0)) (hg_TU : TU (avw K H a0) (svw K H a0)) (hg_WD : WD (avw K H a0)) (hg_IM : IM (avw K H a0)) (hp0 : (sp.toInt ≤ tp.toInt ∧ fr.toInt ≤ sp.toInt ∧ (tk.toInt = 0 ∨ fr.toInt < sp.toInt) ∧ (tk.toInt ≠ 2 ∨ (0 ≤ vl.toInt ∧ vl.toInt ≤ 23)))) (hp1 : mn.toInt ≤ fr.toInt) (hy0 : CU bt tp.toNatClampNeg ci fr sp tk vl) (hy1 : ∀ j : Nat, j < tp.toNatClampNeg → 0 ≤ bt j) (hv_bt : ∀ j : Nat, bt j = (fI H tq j).toInt) : MX l K yX10_readUnit cX10_readUnit 2 (some .int) 3 65 0 0 [.ref a0] H (AE G [112, 136, 137] H.size) (fun v H1 => ∃ (r : Int32) (t0 : Int32) (t1 : Int32) (t2 : Int32) (t3 : Int32) (t4 : Int32), v = some (.int r) ∧ ((-1) ≤ r.toInt ∧ r.toInt ≤ 0) ∧ t0 = fI H1 a0 (K.1.2 10 19) ∧ t1 = fI H1 a0 (K.1.2 10 20) ∧ t2 = fI H1 a0 (K.1.2 10 21) ∧ t3 = fI H1 a0 (K.1.2 10 22) ∧ t4 = fI H1 a0 (K.1.2 10 35) ∧ (r.toInt = -1 ∨ (r.toInt = 0 ∧ t0.toInt ≤ tp.toInt ∧ t1.toInt ≤ t0.toInt ∧ (t2.toInt = 0 ∨ t1.toInt < t0.toInt) ∧ (t2.toInt ≠ 2 ∨ (0 ≤ t3.toInt ∧ t3.toInt ≤ 23)) ∧ t4.toInt = mn.toInt + 1 ∧ sp.toInt ≤ t1.toInt ∧ fr.toInt < t1.toInt)) ∧ oq = fR H1 a0 (K.1.2 10 32) ∧ aq = fR H1 a0 (K.1.2 10 33) ∧ tq = fR H1 a0 (K.1.2 10 17) ∧ (CG (avw K H1 a0)) ∧ (TU (avw K H1 a0) (svw K H1 a0)) ∧ (WD (avw K H1 a0)) ∧ (IM (avw K H1 a0)) ∧ MF K H H1 a0 [19, 20, 21, 22, 35, 39, 40] ∧ (∀ j : Nat, j < 3000 + mn.toNatClampNeg → fI H1 oq j = fI H oq j ∧ fI H1 aq j = fI H aq j) ∧ (r.toInt = -1 ∨ WF (fun k => fI H1 oq k) (fun k => fI H1 aq k) (3000 + mn.toNatClampNeg) (3000 + t4.toNatClampNeg) 0 1) ∧ (r.toInt = -1 ∨ tk.toInt ≠ 3 ∨ ((fI H1 oq (3000 + mn.toNatClampNeg)).toInt = 0 ∧ (fI H1 aq (3000 + mn.toNatClampNeg)).toInt = vl.toInt)) ∧ (RC (unI (kK bt tp.toNatClampNeg) (1 - jb.toInt) ci) r bt tp.toNatClampNeg t1 t0 t2 t3) ∧ TY K G H1) := by
  refine MX.of (by decide +kernel) (Nat.le_of_ble_eq_true rfl) ?_
  intro p e s m below meth c ls Q C hH hl hQ
  subst hH
  have C : CX p K s m _ meth c RX10 cX10_readUnit 2 (some .int) "readUnit" := C
  obtain ⟨hx, hb, hml, hown, hts, hKT, hr, hlocks, hnm⟩ := id C
  have hl : lv_has ls 2 [(0, .ref a0)] := hl
  have hS : va_S (AE G [112, 136, 137] s.heap.size) s.heap s.heap [] := va_S.rf
  have n_0 : (0 : Int32).toInt = 0 := rfl
  have n_1 : (1 : Int32).toInt = 1 := rfl
  have n_2 : (2 : Int32).toInt = 2 := rfl
  have n_3 : (3 : Int32).toInt = 3 := rfl
  have n_10 : (10 : Int32).toInt = 10 := rfl
  have n_19 : (19 : Int32).toInt = 19 := rfl
  have n_20 : (20 : Int32).toInt = 20 := rfl
  have bsp := ty_fi (x := sp) (k := 19) esp hT ga0 rg_112 rfl
  have bfr := ty_fi (x := fr) (k := 20) efr hT ga0 rg_112 rfl
  have btk := ty_fi (x := tk) (k := 21) etk hT ga0 rg_112 rfl
  have bvl := ty_fi (x := vl) (k := 22) evl hT ga0 rg_112 rfl
  have bmn := ty_fi (x := mn) (k := 35) emn hT ga0 rg_112 rfl
  have btp := ty_fi (x := tp) (k := 18) etp hT ga0 rg_112 rfl
  have bjb := ty_fi (x := jb) (k := 34) ejb hT ga0 rg_112 rfl
  have hap : ∀ x y, x < 74 → y < 74 → x ≠ y → K.1.2 10 x ≠ K.1.2 10 y := x_apart hKT hts inX10 tyX10 tyX10_ok nmX10 rfl
  have mf0 : MF K s.heap s.heap a0 [19, 20, 21, 22, 35, 39, 40] := fun _ _ _ => rfl
  have f0_bt := hv_bt
  have pf00 : ∀ j : Nat, j < 3000 + mn.toNatClampNeg → fI s.heap oq j = fI s.heap oq j ∧ fI s.heap aq j = fI s.heap aq j := fun _ _ => ⟨rfl, rfl⟩
  have hmn := i_cl (x := mn) (by omega)
  refine lv_aload_n hx hb dX10_readUnit_0 rfl (lv_at hl 0 rfl) ?_
  refine x_gi C hT (ci := 10) (k := 21) rfl inX10 (by decide) wF_X10_202 ga0 rg_112 rfl dX10_readUnit_1 (fun x1137 ex1137 bx1137 => ?_)
  have ux1137 : tk = x1137 := (etk).trans ex1137.symm
  subst ux1137
  refine lv_iconst (v := 2) hx hb dX10_readUnit_4 (by decide) ?_
  refine lv_icmp_ne (tgt := 46) hx hb dX10_readUnit_5 (by decide) (fun c1138 => ?_) (fun c1138 => ?_)
  · have k1139 := i_ne c1138
    refine lv_iconst (v := 0) hx hb dX10_readUnit_46 (by decide) ?_
    refine lv_istore_n (lv' := [(1, .int 0), (0, .ref a0)]) hx hb dX10_readUnit_47 rfl hl (by decide) rfl (fun ls1140 hl1141 => ?_)
    refine lv_iload_n hx hb dX10_readUnit_48 rfl (lv_at hl1141 0 rfl) ?_
    refine lv_if_ne (tgt := 66) hx hb dX10_readUnit_49 (by decide) (fun c1142 => ?_) (fun c1142 => ?_)
    · have k1143 := i_ne c1142
      exfalso
      omega
    · have k1143 := i_eq c1142
      refine lv_aload_n hx hb dX10_readUnit_52 rfl (lv_at hl1141 1 rfl) ?_
      refine x_gi C hT (ci := 10) (k := 21) rfl inX10 (by decide) wF_X10_202 ga0 rg_112 rfl dX10_readUnit_53 (fun x1144 ex1144 bx1144 => ?_)
      have ux1144 : tk = x1144 := (etk).trans ex1144.symm
      subst ux1144
      refine lv_iconst (v := 3) hx hb dX10_readUnit_56 (by decide) ?_
      refine lv_icmp_eq (tgt := 66) hx hb dX10_readUnit_57 (by decide) (fun c1145 => ?_) (fun c1145 => ?_)
      · have k1146 := i_eq c1145
        refine lv_aload_n hx hb dX10_readUnit_66 rfl (lv_at hl1141 1 rfl) ?_
        refine lv_iload_n hx hb dX10_readUnit_67 rfl (lv_at hl1141 0 rfl) ?_
        refine lv_if_eq (tgt := 75) hx hb dX10_readUnit_68 (by decide) (fun c1147 => ?_) (fun c1147 => ?_)
        · have k1148 := i_eq c1147
          refine lv_iconst (v := 0) hx hb dX10_readUnit_75 (by decide) ?_
          refine lv_iload_n hx hb dX10_readUnit_76 rfl (lv_at hl1141 0 rfl) ?_
          refine lv_if_eq (tgt := 90) hx hb dX10_readUnit_77 (by decide) (fun c1149 => ?_) (fun c1149 => ?_)
          · have k1150 := i_eq c1149
            refine lv_aload_n hx hb dX10_readUnit_90 rfl (lv_at hl1141 1 rfl) ?_
            refine x_gi C hT (ci := 10) (k := 22) rfl inX10 (by decide) wF_X10_205 ga0 rg_112 rfl dX10_readUnit_91 (fun x1151 ex1151 bx1151 => ?_)
            have ux1151 : vl = x1151 := (evl).trans ex1151.symm
            subst ux1151
            refine x_V (As := [.int 0, .int vl]) (rest := []) C (a_X10_emits l K G s.heap (0) (vl) (mn) hT ga0 goq eoq gaq eaq emn hg_CG hg_TU hg_WD hg_IM (by omega)) yo_X10_emits wM_X10_238 ⟨⟨by decide, by decide⟩, by decide, by decide⟩ (x_rv C hT (ci := 10) rfl ga0 rg_112) rfl hl1141.1 rfl (Nat.le_of_ble_eq_true rfl) dX10_readUnit_94 hS (AE_sub (fun _ _ => rfl) (by decide) hS.1) (fun vH1152 H1152 locsH1152 pH1152 zH1152 kH1152 hSH1152 => ?_)
            obtain ⟨x1153, hvH1152, ex1153, hrH1152, m1154, m1155, g1156, g1157, g1158, g1159, mf1160, m1161, m1162, m1163, m1164, hTH1152⟩ := pH1152
            subst hvH1152
            have f1165 : ∀ j : Nat, bt j = (fI H1152 tq j).toInt := fun j => (f0_bt j).trans (congrArg Int32.toInt (fI_kept (x_lt hT kH1152 gtq (by decide))).symm)
            have m1166 := (eoq).trans (MF.r mf1160 (k := 32) (by decide) (by decide)).symm
            have m1167 := (eaq).trans (MF.r mf1160 (k := 33) (by decide) (by decide)).symm
            have m1168 := (etq).trans (MF.r mf1160 (k := 17) (by decide) (by decide)).symm
            have m1169 := (esp).trans (MF.i mf1160 (k := 19) (by decide) (by decide)).symm
            have m1170 := (efr).trans (MF.i mf1160 (k := 20) (by decide) (by decide)).symm
            have m1171 := (etk).trans (MF.i mf1160 (k := 21) (by decide) (by decide)).symm
            have m1172 := (evl).trans (MF.i mf1160 (k := 22) (by decide) (by decide)).symm
            have m1173 := (etp).trans (MF.i mf1160 (k := 18) (by decide) (by decide)).symm
            have m1174 := (ejb).trans (MF.i mf1160 (k := 34) (by decide) (by decide)).symm
            have mf1175 : MF K s.heap H1152 a0 [19, 20, 21, 22, 35, 39, 40] := MF.trans mf0 mf1160 (by decide)
            have bx1153 := ty_fi (x := x1153) (k := 35) ex1153 hTH1152 ga0 rg_112 rfl
            have cem1164 := i_cl (x := mn) (by omega)
            have b1176 : ∀ j : Nat, j < 3000 + mn.toNatClampNeg → fI H1152 oq j = fI s.heap oq j ∧ fI H1152 aq j = fI s.heap aq j := fun j hj => ⟨(m1163 j (by omega)).trans (pf00 j hj).1, (m1164 j (by omega)).trans (pf00 j hj).2⟩
            refine W.eq (g2 := F0 m 97 ls1140 []) rfl ?_
            have wf0 : WF (fun k => fI H1152 oq k) (fun k => fI H1152 aq k) (3000 + mn.toNatClampNeg) (3000 + mn.toNatClampNeg + 1) 0 1 := WF.num (by show (fI _ oq _).toInt = _; rw [← m1161]; rfl)
            have ev0 : (fI H1152 oq (3000 + mn.toNatClampNeg)).toInt = 0 ∧ (fI H1152 aq (3000 + mn.toNatClampNeg)).toInt = vl.toInt := ⟨by rw [← m1161]; rfl, by rw [← m1162]⟩
            refine lv_aload_n hx hb dX10_readUnit_97 rfl (lv_at hl1141 1 rfl) ?_
            refine x_V (As := []) (rest := []) C (a_X10_reads_e l K G H1152 (sp) (fr) (tk) (vl) (tp) bt hTH1152 ga0 gtq m1168 m1169 m1170 m1171 m1172 m1173 g1156 g1157 g1158 g1159 (by omega) (hy1) f1165) yo_X10_reads wM_X10_242 ⟨⟨by decide, by decide⟩, by decide, by decide⟩ (x_rv C hTH1152 (ci := 10) rfl ga0 rg_112) rfl hl1141.1 rfl (Nat.le_of_ble_eq_true rfl) dX10_readUnit_98 hSH1152 (AE_sub (fun _ _ => rfl) (by decide) hSH1152.1) (fun vH1177 H1177 locsH1177 pH1177 zH1177 kH1177 hSH1177 => ?_)
            obtain ⟨x1178, x1179, x1180, x1181, hvH1177, ex1178, ex1179, ex1180, ex1181, hrH1177, m1182, g1183, g1184, g1185, g1186, mf1187, m1188, m1189, m1190, hTH1177⟩ := pH1177
            subst hvH1177
            have b1191 : ∀ j : Nat, j < 3000 + mn.toNatClampNeg → fI H1177 oq j = fI s.heap oq j ∧ fI H1177 aq j = fI s.heap aq j := fun j hj => ⟨(fI_kept (x_lt hTH1152 kH1177 goq (by decide))).trans (b1176 j hj).1, (fI_kept (x_lt hTH1152 kH1177 gaq (by decide))).trans (b1176 j hj).2⟩
            have b1192 : (fI H1177 oq (3000 + mn.toNatClampNeg)).toInt = 0 ∧ (fI H1177 aq (3000 + mn.toNatClampNeg)).toInt = vl.toInt := ⟨(congrArg Int32.toInt (fI_kept (x_lt hTH1152 kH1177 goq (by decide)))).trans ev0.1, (congrArg Int32.toInt (fI_kept (x_lt hTH1152 kH1177 gaq (by decide)))).trans ev0.2⟩
            have b1193 : WF (fun k => fI H1177 oq k) (fun k => fI H1177 aq k) (3000 + mn.toNatClampNeg) (3000 + mn.toNatClampNeg + 1) 0 1 := WF.congr (fun j => fI_kept (x_lt hTH1152 kH1177 goq (by decide))) (fun j => fI_kept (x_lt hTH1152 kH1177 gaq (by decide))) wf0
            have f1194 : ∀ j : Nat, bt j = (fI H1177 tq j).toInt := fun j => (f1165 j).trans (congrArg Int32.toInt (fI_kept (x_lt hTH1152 kH1177 gtq (by decide))).symm)
            have m1195 := (m1154).trans (MF.r mf1187 (k := 32) (by decide) (by decide)).symm
            have m1196 := (m1155).trans (MF.r mf1187 (k := 33) (by decide) (by decide)).symm
            have m1197 := (m1168).trans (MF.r mf1187 (k := 17) (by decide) (by decide)).symm
            have m1198 := (m1173).trans (MF.i mf1187 (k := 18) (by decide) (by decide)).symm
            have m1199 := (m1174).trans (MF.i mf1187 (k := 34) (by decide) (by decide)).symm
            have m1200 := (ex1153).trans (MF.i mf1187 (k := 35) (by decide) (by decide)).symm
            have mf1201 : MF K s.heap H1177 a0 [19, 20, 21, 22, 35, 39, 40] := MF.trans mf1175 mf1187 (by decide)
            have bx1178 := ty_fi (x := x1178) (k := 19) ex1178 hTH1177 ga0 rg_112 rfl
            have bx1179 := ty_fi (x := x1179) (k := 20) ex1179 hTH1177 ga0 rg_112 rfl
            have bx1180 := ty_fi (x := x1180) (k := 21) ex1180 hTH1177 ga0 rg_112 rfl
            have bx1181 := ty_fi (x := x1181) (k := 22) ex1181 hTH1177 ga0 rg_112 rfl
            have cn_x1179 := i_cl (x := x1179) (by omega)
            have cn_fr := i_cl (x := fr) (by omega)
            have cu1202 : CU bt tp.toNatClampNeg (ci + 1) x1179 x1178 x1180 x1181 := CU.next hy0 m1188 m1189 m1190 (by omega)
            refine W.eq (g2 := F0 m 101 ls1140 []) rfl ?_
            refine lv_iconst (v := 0) hx hb dX10_readUnit_101 (by decide) ?_
            have cr_mn := i_cl (x := mn) (by omega)
            have cr_x1153 := i_cl (x := x1153) (by omega)
            have tq1 := TV.nm hy0.2.2.1
            have tq2 := TV.wd hy0.2.2.1
            have tq3 := TV.wv hy0.2.2.1
            exact x_iret C hQ dX10_readUnit_102 hSH1177 (by decide) (by decide) (⟨0, x1178, x1179, x1180, x1181, x1153, rfl, by decide, ex1178, ex1179, ex1180, ex1181, m1200, by omega, m1195, m1196, m1182, g1183, g1184, g1185, g1186, mf1201, b1191, Or.inr (WF.cast b1193 (by omega) (by omega)), Or.inr (Or.inr b1192), Or.inr ⟨ci + 1, if_neg (by omega), by omega, cu1202⟩, hTH1177⟩)
          · have k1150 := i_ne c1149
            exfalso
            omega
        · have k1148 := i_ne c1147
          exfalso
          omega
      · have k1146 := i_ne c1145
        refine lv_aload_n hx hb dX10_readUnit_60 rfl (lv_at hl1141 1 rfl) ?_
        refine lv_iconst (v := 1) hx hb dX10_readUnit_61 (by decide) ?_
        refine x_V (As := [.int 1]) (rest := []) C (a_X10_fails l K G s.heap (1) hT ga0 hg_CG hg_TU hg_WD hg_IM) yo_X10_fails wM_X10_235 ⟨⟨by decide, by decide⟩, by decide, by decide⟩ (x_rv C hT (ci := 10) rfl ga0 rg_112) rfl hl1141.1 rfl (Nat.le_of_ble_eq_true rfl) dX10_readUnit_62 hS (AE_sub (fun _ _ => rfl) (by decide) hS.1) (fun vH1204 H1204 locsH1204 pH1204 zH1204 kH1204 hSH1204 => ?_)
        obtain ⟨x1205, hvH1204, bx1205, g1206, g1207, g1208, g1209, mf1210, hTH1204⟩ := pH1204
        subst hvH1204
        have b1211 : ∀ j : Nat, j < 3000 + mn.toNatClampNeg → fI H1204 oq j = fI s.heap oq j ∧ fI H1204 aq j = fI s.heap aq j := fun j hj => ⟨(fI_kept (x_lt hT kH1204 goq (by decide))).trans (pf00 j hj).1, (fI_kept (x_lt hT kH1204 gaq (by decide))).trans (pf00 j hj).2⟩
        have f1212 : ∀ j : Nat, bt j = (fI H1204 tq j).toInt := fun j => (f0_bt j).trans (congrArg Int32.toInt (fI_kept (x_lt hT kH1204 gtq (by decide))).symm)
        have m1213 := (eoq).trans (MF.r mf1210 (k := 32) (by decide) (by decide)).symm
        have m1214 := (eaq).trans (MF.r mf1210 (k := 33) (by decide) (by decide)).symm
        have m1215 := (etq).trans (MF.r mf1210 (k := 17) (by decide) (by decide)).symm
        have m1216 := (esp).trans (MF.i mf1210 (k := 19) (by decide) (by decide)).symm
        have m1217 := (efr).trans (MF.i mf1210 (k := 20) (by decide) (by decide)).symm
        have m1218 := (etk).trans (MF.i mf1210 (k := 21) (by decide) (by decide)).symm
        have m1219 := (evl).trans (MF.i mf1210 (k := 22) (by decide) (by decide)).symm
        have m1220 := (emn).trans (MF.i mf1210 (k := 35) (by decide) (by decide)).symm
        have m1221 := (etp).trans (MF.i mf1210 (k := 18) (by decide) (by decide)).symm
        have m1222 := (ejb).trans (MF.i mf1210 (k := 34) (by decide) (by decide)).symm
        have mf1223 : MF K s.heap H1204 a0 [19, 20, 21, 22, 35, 39, 40] := MF.trans mf0 mf1210 (by decide)
        refine W.eq (g2 := F0 m 65 ls1140 [.int x1205]) rfl ?_
        have tq1 := TV.nm hy0.2.2.1
        have tq2 := TV.wd hy0.2.2.1
        have tq3 := TV.wv hy0.2.2.1
        exact x_iret C hQ dX10_readUnit_65 hSH1204 (by decide) (by decide) (⟨x1205, sp, fr, tk, vl, mn, rfl, by omega, m1216, m1217, m1218, m1219, m1220, by omega, m1213, m1214, m1215, g1206, g1207, g1208, g1209, mf1223, b1211, Or.inl (by omega), Or.inl (by omega), Or.inl ⟨if_pos (by omega), by omega⟩, hTH1204⟩)
  · have k1139 := i_eq c1138
    refine lv_aload_n hx hb dX10_readUnit_8 rfl (lv_at hl 0 rfl) ?_
    refine x_gi C hT (ci := 10) (k := 34) rfl inX10 (by decide) wF_X10_231 ga0 rg_112 rfl dX10_readUnit_9 (fun x1224 ex1224 bx1224 => ?_)
    have ux1224 : jb = x1224 := (ejb).trans ex1224.symm
    subst ux1224
    refine lv_if_eq (tgt := 27) hx hb dX10_readUnit_12 (by decide) (fun c1225 => ?_) (fun c1225 => ?_)
    · have k1226 := i_eq c1225
      refine lv_aload_n hx hb dX10_readUnit_27 rfl (lv_at hl 0 rfl) ?_
      refine lv_aload_n hx hb dX10_readUnit_28 rfl (lv_at hl 0 rfl) ?_
      refine x_gi C hT (ci := 10) (k := 22) rfl inX10 (by decide) wF_X10_205 ga0 rg_112 rfl dX10_readUnit_29 (fun x1227 ex1227 bx1227 => ?_)
      have ux1227 : vl = x1227 := (evl).trans ex1227.symm
      subst ux1227
      refine lv_bipush (v := 10) hx hb dX10_readUnit_32 (by decide) ?_
      refine lv_bipush (v := 19) hx hb dX10_readUnit_34 (by decide) ?_
      refine x_V (As := [.int vl, .int 10, .int 19]) (rest := []) C (c_X10_isIn l K G s.heap (vl) (10) (19) hT ga0) yo_X10_isIn wM_X10_177 ⟨⟨by decide, by decide⟩, by decide, by decide⟩ (x_rv C hT (ci := 10) rfl ga0 rg_112) rfl hl.1 rfl (Nat.le_of_ble_eq_true rfl) dX10_readUnit_36 hS (AE_sub (fun _ _ => rfl) (by decide) hS.1) (fun vH1228 H1228 locsH1228 pH1228 zH1228 kH1228 hSH1228 => ?_)
      have hqH1228 := pH1228.1.symm
      subst hqH1228
      rcases pH1228.2 with ⟨hvH1228, hcH1228⟩ | ⟨hvH1228, hcH1228⟩
      · subst hvH1228
        refine W.eq (g2 := F0 m 39 ls [.int 1]) rfl ?_
        refine lv_if_eq (tgt := 46) hx hb dX10_readUnit_39 (by decide) (fun c1229 => ?_) (fun c1229 => ?_)
        · have k1230 := i_eq c1229
          exfalso
          omega
        · have k1230 := i_ne c1229
          refine lv_iconst (v := 1) hx hb dX10_readUnit_42 (by decide) ?_
          refine lv_goto (tgt := 47) hx hb dX10_readUnit_43 (by decide) ?_
          refine lv_istore_n (lv' := [(1, .int 1), (0, .ref a0)]) hx hb dX10_readUnit_47 rfl hl (by decide) rfl (fun ls1231 hl1232 => ?_)
          refine lv_iload_n hx hb dX10_readUnit_48 rfl (lv_at hl1232 0 rfl) ?_
          refine lv_if_ne (tgt := 66) hx hb dX10_readUnit_49 (by decide) (fun c1233 => ?_) (fun c1233 => ?_)
          · have k1234 := i_ne c1233
            refine lv_aload_n hx hb dX10_readUnit_66 rfl (lv_at hl1232 1 rfl) ?_
            refine lv_iload_n hx hb dX10_readUnit_67 rfl (lv_at hl1232 0 rfl) ?_
            refine lv_if_eq (tgt := 75) hx hb dX10_readUnit_68 (by decide) (fun c1235 => ?_) (fun c1235 => ?_)
            · have k1236 := i_eq c1235
              exfalso
              omega
            · have k1236 := i_ne c1235
              refine lv_iconst (v := 1) hx hb dX10_readUnit_71 (by decide) ?_
              refine lv_goto (tgt := 76) hx hb dX10_readUnit_72 (by decide) ?_
              refine lv_iload_n hx hb dX10_readUnit_76 rfl (lv_at hl1232 0 rfl) ?_
              refine lv_if_eq (tgt := 90) hx hb dX10_readUnit_77 (by decide) (fun c1237 => ?_) (fun c1237 => ?_)
              · have k1238 := i_eq c1237
                exfalso
                omega
              · have k1238 := i_ne c1237
                refine lv_aload_n hx hb dX10_readUnit_80 rfl (lv_at hl1232 1 rfl) ?_
                refine x_gi C hT (ci := 10) (k := 22) rfl inX10 (by decide) wF_X10_205 ga0 rg_112 rfl dX10_readUnit_81 (fun x1239 ex1239 bx1239 => ?_)
                have ux1239 : vl = x1239 := (evl).trans ex1239.symm
                subst ux1239
                refine lv_bipush (v := 10) hx hb dX10_readUnit_84 (by decide) ?_
                refine lv_isub hx hb dX10_readUnit_86 ?_
                refine lv_topi (fun x1240 ex1240 => ?_)
                have tx1240 := i_sub ex1240 (by omega)
                refine lv_goto (tgt := 94) hx hb dX10_readUnit_87 (by decide) ?_
                refine x_V (As := [.int 1, .int x1240]) (rest := []) C (a_X10_emits l K G s.heap (1) (x1240) (mn) hT ga0 goq eoq gaq eaq emn hg_CG hg_TU hg_WD hg_IM (by omega)) yo_X10_emits wM_X10_238 ⟨⟨by decide, by decide⟩, by decide, by decide⟩ (x_rv C hT (ci := 10) rfl ga0 rg_112) rfl hl1232.1 rfl (Nat.le_of_ble_eq_true rfl) dX10_readUnit_94 hSH1228 (AE_sub (fun _ _ => rfl) (by decide) hSH1228.1) (fun vH1241 H1241 locsH1241 pH1241 zH1241 kH1241 hSH1241 => ?_)
                obtain ⟨x1242, hvH1241, ex1242, hrH1241, m1243, m1244, g1245, g1246, g1247, g1248, mf1249, m1250, m1251, m1252, m1253, hTH1241⟩ := pH1241
                subst hvH1241
                have f1254 : ∀ j : Nat, bt j = (fI H1241 tq j).toInt := fun j => (f0_bt j).trans (congrArg Int32.toInt (fI_kept (x_lt hT kH1241 gtq (by decide))).symm)
                have m1255 := (eoq).trans (MF.r mf1249 (k := 32) (by decide) (by decide)).symm
                have m1256 := (eaq).trans (MF.r mf1249 (k := 33) (by decide) (by decide)).symm
                have m1257 := (etq).trans (MF.r mf1249 (k := 17) (by decide) (by decide)).symm
                have m1258 := (esp).trans (MF.i mf1249 (k := 19) (by decide) (by decide)).symm
                have m1259 := (efr).trans (MF.i mf1249 (k := 20) (by decide) (by decide)).symm
                have m1260 := (etk).trans (MF.i mf1249 (k := 21) (by decide) (by decide)).symm
                have m1261 := (evl).trans (MF.i mf1249 (k := 22) (by decide) (by decide)).symm
                have m1262 := (etp).trans (MF.i mf1249 (k := 18) (by decide) (by decide)).symm
                have m1263 := (ejb).trans (MF.i mf1249 (k := 34) (by decide) (by decide)).symm
                have mf1264 : MF K s.heap H1241 a0 [19, 20, 21, 22, 35, 39, 40] := MF.trans mf0 mf1249 (by decide)
                have bx1242 := ty_fi (x := x1242) (k := 35) ex1242 hTH1241 ga0 rg_112 rfl
                have cem1253 := i_cl (x := mn) (by omega)
                have b1265 : ∀ j : Nat, j < 3000 + mn.toNatClampNeg → fI H1241 oq j = fI s.heap oq j ∧ fI H1241 aq j = fI s.heap aq j := fun j hj => ⟨(m1252 j (by omega)).trans (pf00 j hj).1, (m1253 j (by omega)).trans (pf00 j hj).2⟩
                refine W.eq (g2 := F0 m 97 ls1231 []) rfl ?_
                have wf0 : WF (fun k => fI H1241 oq k) (fun k => fI H1241 aq k) (3000 + mn.toNatClampNeg) (3000 + mn.toNatClampNeg + 1) 0 1 := WF.ask (by show (fI _ oq _).toInt = _; rw [← m1250]; rfl) (by show 0 ≤ (fI _ aq _).toInt ∧ (fI _ aq _).toInt ≤ 13; rw [← m1251]; omega)
                refine lv_aload_n hx hb dX10_readUnit_97 rfl (lv_at hl1232 1 rfl) ?_
                refine x_V (As := []) (rest := []) C (a_X10_reads_e l K G H1241 (sp) (fr) (tk) (vl) (tp) bt hTH1241 ga0 gtq m1257 m1258 m1259 m1260 m1261 m1262 g1245 g1246 g1247 g1248 (by omega) (hy1) f1254) yo_X10_reads wM_X10_242 ⟨⟨by decide, by decide⟩, by decide, by decide⟩ (x_rv C hTH1241 (ci := 10) rfl ga0 rg_112) rfl hl1232.1 rfl (Nat.le_of_ble_eq_true rfl) dX10_readUnit_98 hSH1241 (AE_sub (fun _ _ => rfl) (by decide) hSH1241.1) (fun vH1266 H1266 locsH1266 pH1266 zH1266 kH1266 hSH1266 => ?_)
                obtain ⟨x1267, x1268, x1269, x1270, hvH1266, ex1267, ex1268, ex1269, ex1270, hrH1266, m1271, g1272, g1273, g1274, g1275, mf1276, m1277, m1278, m1279, hTH1266⟩ := pH1266
                subst hvH1266
                have b1280 : ∀ j : Nat, j < 3000 + mn.toNatClampNeg → fI H1266 oq j = fI s.heap oq j ∧ fI H1266 aq j = fI s.heap aq j := fun j hj => ⟨(fI_kept (x_lt hTH1241 kH1266 goq (by decide))).trans (b1265 j hj).1, (fI_kept (x_lt hTH1241 kH1266 gaq (by decide))).trans (b1265 j hj).2⟩
                have b1281 : WF (fun k => fI H1266 oq k) (fun k => fI H1266 aq k) (3000 + mn.toNatClampNeg) (3000 + mn.toNatClampNeg + 1) 0 1 := WF.congr (fun j => fI_kept (x_lt hTH1241 kH1266 goq (by decide))) (fun j => fI_kept (x_lt hTH1241 kH1266 gaq (by decide))) wf0
                have f1282 : ∀ j : Nat, bt j = (fI H1266 tq j).toInt := fun j => (f1254 j).trans (congrArg Int32.toInt (fI_kept (x_lt hTH1241 kH1266 gtq (by decide))).symm)
                have m1283 := (m1243).trans (MF.r mf1276 (k := 32) (by decide) (by decide)).symm
                have m1284 := (m1244).trans (MF.r mf1276 (k := 33) (by decide) (by decide)).symm
                have m1285 := (m1257).trans (MF.r mf1276 (k := 17) (by decide) (by decide)).symm
                have m1286 := (m1262).trans (MF.i mf1276 (k := 18) (by decide) (by decide)).symm
                have m1287 := (m1263).trans (MF.i mf1276 (k := 34) (by decide) (by decide)).symm
                have m1288 := (ex1242).trans (MF.i mf1276 (k := 35) (by decide) (by decide)).symm
                have mf1289 : MF K s.heap H1266 a0 [19, 20, 21, 22, 35, 39, 40] := MF.trans mf1264 mf1276 (by decide)
                have bx1267 := ty_fi (x := x1267) (k := 19) ex1267 hTH1266 ga0 rg_112 rfl
                have bx1268 := ty_fi (x := x1268) (k := 20) ex1268 hTH1266 ga0 rg_112 rfl
                have bx1269 := ty_fi (x := x1269) (k := 21) ex1269 hTH1266 ga0 rg_112 rfl
                have bx1270 := ty_fi (x := x1270) (k := 22) ex1270 hTH1266 ga0 rg_112 rfl
                have cn_x1268 := i_cl (x := x1268) (by omega)
                have cn_fr := i_cl (x := fr) (by omega)
                have cu1290 : CU bt tp.toNatClampNeg (ci + 1) x1268 x1267 x1269 x1270 := CU.next hy0 m1277 m1278 m1279 (by omega)
                refine W.eq (g2 := F0 m 101 ls1231 []) rfl ?_
                refine lv_iconst (v := 0) hx hb dX10_readUnit_101 (by decide) ?_
                have cr_mn := i_cl (x := mn) (by omega)
                have cr_x1242 := i_cl (x := x1242) (by omega)
                have tq1 := TV.nm hy0.2.2.1
                have tq2 := TV.wd hy0.2.2.1
                have tq3 := TV.wv hy0.2.2.1
                exact x_iret C hQ dX10_readUnit_102 hSH1266 (by decide) (by decide) (⟨0, x1267, x1268, x1269, x1270, x1242, rfl, by decide, ex1267, ex1268, ex1269, ex1270, m1288, by omega, m1283, m1284, m1271, g1272, g1273, g1274, g1275, mf1289, b1280, Or.inr (WF.cast b1281 (by omega) (by omega)), Or.inr (Or.inl (by omega)), Or.inr ⟨ci + 1, if_neg (by omega), by omega, cu1290⟩, hTH1266⟩)
          · have k1234 := i_eq c1233
            exfalso
            omega
      · subst hvH1228
        refine W.eq (g2 := F0 m 39 ls [.int 0]) rfl ?_
        refine lv_if_eq (tgt := 46) hx hb dX10_readUnit_39 (by decide) (fun c1292 => ?_) (fun c1292 => ?_)
        · have k1293 := i_eq c1292
          refine lv_iconst (v := 0) hx hb dX10_readUnit_46 (by decide) ?_
          refine lv_istore_n (lv' := [(1, .int 0), (0, .ref a0)]) hx hb dX10_readUnit_47 rfl hl (by decide) rfl (fun ls1294 hl1295 => ?_)
          refine lv_iload_n hx hb dX10_readUnit_48 rfl (lv_at hl1295 0 rfl) ?_
          refine lv_if_ne (tgt := 66) hx hb dX10_readUnit_49 (by decide) (fun c1296 => ?_) (fun c1296 => ?_)
          · have k1297 := i_ne c1296
            exfalso
            omega
          · have k1297 := i_eq c1296
            refine lv_aload_n hx hb dX10_readUnit_52 rfl (lv_at hl1295 1 rfl) ?_
            refine x_gi C hT (ci := 10) (k := 21) rfl inX10 (by decide) wF_X10_202 ga0 rg_112 rfl dX10_readUnit_53 (fun x1298 ex1298 bx1298 => ?_)
            have ux1298 : tk = x1298 := (etk).trans ex1298.symm
            subst ux1298
            refine lv_iconst (v := 3) hx hb dX10_readUnit_56 (by decide) ?_
            refine lv_icmp_eq (tgt := 66) hx hb dX10_readUnit_57 (by decide) (fun c1299 => ?_) (fun c1299 => ?_)
            · have k1300 := i_eq c1299
              exfalso
              omega
            · have k1300 := i_ne c1299
              refine lv_aload_n hx hb dX10_readUnit_60 rfl (lv_at hl1295 1 rfl) ?_
              refine lv_iconst (v := 1) hx hb dX10_readUnit_61 (by decide) ?_
              refine x_V (As := [.int 1]) (rest := []) C (a_X10_fails l K G s.heap (1) hT ga0 hg_CG hg_TU hg_WD hg_IM) yo_X10_fails wM_X10_235 ⟨⟨by decide, by decide⟩, by decide, by decide⟩ (x_rv C hT (ci := 10) rfl ga0 rg_112) rfl hl1295.1 rfl (Nat.le_of_ble_eq_true rfl) dX10_readUnit_62 hSH1228 (AE_sub (fun _ _ => rfl) (by decide) hSH1228.1) (fun vH1301 H1301 locsH1301 pH1301 zH1301 kH1301 hSH1301 => ?_)
              obtain ⟨x1302, hvH1301, bx1302, g1303, g1304, g1305, g1306, mf1307, hTH1301⟩ := pH1301
              subst hvH1301
              have b1308 : ∀ j : Nat, j < 3000 + mn.toNatClampNeg → fI H1301 oq j = fI s.heap oq j ∧ fI H1301 aq j = fI s.heap aq j := fun j hj => ⟨(fI_kept (x_lt hT kH1301 goq (by decide))).trans (pf00 j hj).1, (fI_kept (x_lt hT kH1301 gaq (by decide))).trans (pf00 j hj).2⟩
              have f1309 : ∀ j : Nat, bt j = (fI H1301 tq j).toInt := fun j => (f0_bt j).trans (congrArg Int32.toInt (fI_kept (x_lt hT kH1301 gtq (by decide))).symm)
              have m1310 := (eoq).trans (MF.r mf1307 (k := 32) (by decide) (by decide)).symm
              have m1311 := (eaq).trans (MF.r mf1307 (k := 33) (by decide) (by decide)).symm
              have m1312 := (etq).trans (MF.r mf1307 (k := 17) (by decide) (by decide)).symm
              have m1313 := (esp).trans (MF.i mf1307 (k := 19) (by decide) (by decide)).symm
              have m1314 := (efr).trans (MF.i mf1307 (k := 20) (by decide) (by decide)).symm
              have m1315 := (etk).trans (MF.i mf1307 (k := 21) (by decide) (by decide)).symm
              have m1316 := (evl).trans (MF.i mf1307 (k := 22) (by decide) (by decide)).symm
              have m1317 := (emn).trans (MF.i mf1307 (k := 35) (by decide) (by decide)).symm
              have m1318 := (etp).trans (MF.i mf1307 (k := 18) (by decide) (by decide)).symm
              have m1319 := (ejb).trans (MF.i mf1307 (k := 34) (by decide) (by decide)).symm
              have mf1320 : MF K s.heap H1301 a0 [19, 20, 21, 22, 35, 39, 40] := MF.trans mf0 mf1307 (by decide)
              refine W.eq (g2 := F0 m 65 ls1294 [.int x1302]) rfl ?_
              have tq1 := TV.nm hy0.2.2.1
              have tq2 := TV.wd hy0.2.2.1
              have tq3 := TV.wv hy0.2.2.1
              exact x_iret C hQ dX10_readUnit_65 hSH1301 (by decide) (by decide) (⟨x1302, sp, fr, tk, vl, mn, rfl, by omega, m1313, m1314, m1315, m1316, m1317, by omega, m1310, m1311, m1312, g1303, g1304, g1305, g1306, mf1320, b1308, Or.inl (by omega), Or.inl (by omega), Or.inl ⟨if_pos (by omega), by omega⟩, hTH1301⟩)
        · have k1293 := i_ne c1292
          exfalso
          omega
    · have k1226 := i_ne c1225
      refine lv_aload_n hx hb dX10_readUnit_15 rfl (lv_at hl 0 rfl) ?_
      refine x_gi C hT (ci := 10) (k := 22) rfl inX10 (by decide) wF_X10_205 ga0 rg_112 rfl dX10_readUnit_16 (fun x1321 ex1321 bx1321 => ?_)
      have ux1321 : vl = x1321 := (evl).trans ex1321.symm
      subst ux1321
      refine lv_bipush (v := 20) hx hb dX10_readUnit_19 (by decide) ?_
      refine lv_icmp_lt (tgt := 46) hx hb dX10_readUnit_21 (by decide) (fun c1322 => ?_) (fun c1322 => ?_)
      · have k1323 := i_lt c1322
        refine lv_iconst (v := 0) hx hb dX10_readUnit_46 (by decide) ?_
        refine lv_istore_n (lv' := [(1, .int 0), (0, .ref a0)]) hx hb dX10_readUnit_47 rfl hl (by decide) rfl (fun ls1324 hl1325 => ?_)
        refine lv_iload_n hx hb dX10_readUnit_48 rfl (lv_at hl1325 0 rfl) ?_
        refine lv_if_ne (tgt := 66) hx hb dX10_readUnit_49 (by decide) (fun c1326 => ?_) (fun c1326 => ?_)
        · have k1327 := i_ne c1326
          exfalso
          omega
        · have k1327 := i_eq c1326
          refine lv_aload_n hx hb dX10_readUnit_52 rfl (lv_at hl1325 1 rfl) ?_
          refine x_gi C hT (ci := 10) (k := 21) rfl inX10 (by decide) wF_X10_202 ga0 rg_112 rfl dX10_readUnit_53 (fun x1328 ex1328 bx1328 => ?_)
          have ux1328 : tk = x1328 := (etk).trans ex1328.symm
          subst ux1328
          refine lv_iconst (v := 3) hx hb dX10_readUnit_56 (by decide) ?_
          refine lv_icmp_eq (tgt := 66) hx hb dX10_readUnit_57 (by decide) (fun c1329 => ?_) (fun c1329 => ?_)
          · have k1330 := i_eq c1329
            exfalso
            omega
          · have k1330 := i_ne c1329
            refine lv_aload_n hx hb dX10_readUnit_60 rfl (lv_at hl1325 1 rfl) ?_
            refine lv_iconst (v := 1) hx hb dX10_readUnit_61 (by decide) ?_
            refine x_V (As := [.int 1]) (rest := []) C (a_X10_fails l K G s.heap (1) hT ga0 hg_CG hg_TU hg_WD hg_IM) yo_X10_fails wM_X10_235 ⟨⟨by decide, by decide⟩, by decide, by decide⟩ (x_rv C hT (ci := 10) rfl ga0 rg_112) rfl hl1325.1 rfl (Nat.le_of_ble_eq_true rfl) dX10_readUnit_62 hS (AE_sub (fun _ _ => rfl) (by decide) hS.1) (fun vH1331 H1331 locsH1331 pH1331 zH1331 kH1331 hSH1331 => ?_)
            obtain ⟨x1332, hvH1331, bx1332, g1333, g1334, g1335, g1336, mf1337, hTH1331⟩ := pH1331
            subst hvH1331
            have b1338 : ∀ j : Nat, j < 3000 + mn.toNatClampNeg → fI H1331 oq j = fI s.heap oq j ∧ fI H1331 aq j = fI s.heap aq j := fun j hj => ⟨(fI_kept (x_lt hT kH1331 goq (by decide))).trans (pf00 j hj).1, (fI_kept (x_lt hT kH1331 gaq (by decide))).trans (pf00 j hj).2⟩
            have f1339 : ∀ j : Nat, bt j = (fI H1331 tq j).toInt := fun j => (f0_bt j).trans (congrArg Int32.toInt (fI_kept (x_lt hT kH1331 gtq (by decide))).symm)
            have m1340 := (eoq).trans (MF.r mf1337 (k := 32) (by decide) (by decide)).symm
            have m1341 := (eaq).trans (MF.r mf1337 (k := 33) (by decide) (by decide)).symm
            have m1342 := (etq).trans (MF.r mf1337 (k := 17) (by decide) (by decide)).symm
            have m1343 := (esp).trans (MF.i mf1337 (k := 19) (by decide) (by decide)).symm
            have m1344 := (efr).trans (MF.i mf1337 (k := 20) (by decide) (by decide)).symm
            have m1345 := (etk).trans (MF.i mf1337 (k := 21) (by decide) (by decide)).symm
            have m1346 := (evl).trans (MF.i mf1337 (k := 22) (by decide) (by decide)).symm
            have m1347 := (emn).trans (MF.i mf1337 (k := 35) (by decide) (by decide)).symm
            have m1348 := (etp).trans (MF.i mf1337 (k := 18) (by decide) (by decide)).symm
            have m1349 := (ejb).trans (MF.i mf1337 (k := 34) (by decide) (by decide)).symm
            have mf1350 : MF K s.heap H1331 a0 [19, 20, 21, 22, 35, 39, 40] := MF.trans mf0 mf1337 (by decide)
            refine W.eq (g2 := F0 m 65 ls1324 [.int x1332]) rfl ?_
            have tq1 := TV.nm hy0.2.2.1
            have tq2 := TV.wd hy0.2.2.1
            have tq3 := TV.wv hy0.2.2.1
            exact x_iret C hQ dX10_readUnit_65 hSH1331 (by decide) (by decide) (⟨x1332, sp, fr, tk, vl, mn, rfl, by omega, m1343, m1344, m1345, m1346, m1347, by omega, m1340, m1341, m1342, g1333, g1334, g1335, g1336, mf1350, b1338, Or.inl (by omega), Or.inl (by omega), Or.inl ⟨if_pos (by omega), by omega⟩, hTH1331⟩)
      · have k1323 := i_nlt c1322
        refine lv_goto (tgt := 42) hx hb dX10_readUnit_24 (by decide) ?_
        refine lv_iconst (v := 1) hx hb dX10_readUnit_42 (by decide) ?_
        refine lv_goto (tgt := 47) hx hb dX10_readUnit_43 (by decide) ?_
        refine lv_istore_n (lv' := [(1, .int 1), (0, .ref a0)]) hx hb dX10_readUnit_47 rfl hl (by decide) rfl (fun ls1351 hl1352 => ?_)
        refine lv_iload_n hx hb dX10_readUnit_48 rfl (lv_at hl1352 0 rfl) ?_
        refine lv_if_ne (tgt := 66) hx hb dX10_readUnit_49 (by decide) (fun c1353 => ?_) (fun c1353 => ?_)
        · have k1354 := i_ne c1353
          refine lv_aload_n hx hb dX10_readUnit_66 rfl (lv_at hl1352 1 rfl) ?_
          refine lv_iload_n hx hb dX10_readUnit_67 rfl (lv_at hl1352 0 rfl) ?_
          refine lv_if_eq (tgt := 75) hx hb dX10_readUnit_68 (by decide) (fun c1355 => ?_) (fun c1355 => ?_)
          · have k1356 := i_eq c1355
            exfalso
            omega
          · have k1356 := i_ne c1355
            refine lv_iconst (v := 1) hx hb dX10_readUnit_71 (by decide) ?_
            refine lv_goto (tgt := 76) hx hb dX10_readUnit_72 (by decide) ?_
            refine lv_iload_n hx hb dX10_readUnit_76 rfl (lv_at hl1352 0 rfl) ?_
            refine lv_if_eq (tgt := 90) hx hb dX10_readUnit_77 (by decide) (fun c1357 => ?_) (fun c1357 => ?_)
            · have k1358 := i_eq c1357
              exfalso
              omega
            · have k1358 := i_ne c1357
              refine lv_aload_n hx hb dX10_readUnit_80 rfl (lv_at hl1352 1 rfl) ?_
              refine x_gi C hT (ci := 10) (k := 22) rfl inX10 (by decide) wF_X10_205 ga0 rg_112 rfl dX10_readUnit_81 (fun x1359 ex1359 bx1359 => ?_)
              have ux1359 : vl = x1359 := (evl).trans ex1359.symm
              subst ux1359
              refine lv_bipush (v := 10) hx hb dX10_readUnit_84 (by decide) ?_
              refine lv_isub hx hb dX10_readUnit_86 ?_
              refine lv_topi (fun x1360 ex1360 => ?_)
              have tx1360 := i_sub ex1360 (by have := i_rng vl; omega)
              refine lv_goto (tgt := 94) hx hb dX10_readUnit_87 (by decide) ?_
              refine x_V (As := [.int 1, .int x1360]) (rest := []) C (a_X10_emits l K G s.heap (1) (x1360) (mn) hT ga0 goq eoq gaq eaq emn hg_CG hg_TU hg_WD hg_IM (by omega)) yo_X10_emits wM_X10_238 ⟨⟨by decide, by decide⟩, by decide, by decide⟩ (x_rv C hT (ci := 10) rfl ga0 rg_112) rfl hl1352.1 rfl (Nat.le_of_ble_eq_true rfl) dX10_readUnit_94 hS (AE_sub (fun _ _ => rfl) (by decide) hS.1) (fun vH1361 H1361 locsH1361 pH1361 zH1361 kH1361 hSH1361 => ?_)
              obtain ⟨x1362, hvH1361, ex1362, hrH1361, m1363, m1364, g1365, g1366, g1367, g1368, mf1369, m1370, m1371, m1372, m1373, hTH1361⟩ := pH1361
              subst hvH1361
              have f1374 : ∀ j : Nat, bt j = (fI H1361 tq j).toInt := fun j => (f0_bt j).trans (congrArg Int32.toInt (fI_kept (x_lt hT kH1361 gtq (by decide))).symm)
              have m1375 := (eoq).trans (MF.r mf1369 (k := 32) (by decide) (by decide)).symm
              have m1376 := (eaq).trans (MF.r mf1369 (k := 33) (by decide) (by decide)).symm
              have m1377 := (etq).trans (MF.r mf1369 (k := 17) (by decide) (by decide)).symm
              have m1378 := (esp).trans (MF.i mf1369 (k := 19) (by decide) (by decide)).symm
              have m1379 := (efr).trans (MF.i mf1369 (k := 20) (by decide) (by decide)).symm
              have m1380 := (etk).trans (MF.i mf1369 (k := 21) (by decide) (by decide)).symm
              have m1381 := (evl).trans (MF.i mf1369 (k := 22) (by decide) (by decide)).symm
              have m1382 := (etp).trans (MF.i mf1369 (k := 18) (by decide) (by decide)).symm
              have m1383 := (ejb).trans (MF.i mf1369 (k := 34) (by decide) (by decide)).symm
              have mf1384 : MF K s.heap H1361 a0 [19, 20, 21, 22, 35, 39, 40] := MF.trans mf0 mf1369 (by decide)
              have bx1362 := ty_fi (x := x1362) (k := 35) ex1362 hTH1361 ga0 rg_112 rfl
              have cem1373 := i_cl (x := mn) (by omega)
              have b1385 : ∀ j : Nat, j < 3000 + mn.toNatClampNeg → fI H1361 oq j = fI s.heap oq j ∧ fI H1361 aq j = fI s.heap aq j := fun j hj => ⟨(m1372 j (by omega)).trans (pf00 j hj).1, (m1373 j (by omega)).trans (pf00 j hj).2⟩
              refine W.eq (g2 := F0 m 97 ls1351 []) rfl ?_
              have wf0 : WF (fun k => fI H1361 oq k) (fun k => fI H1361 aq k) (3000 + mn.toNatClampNeg) (3000 + mn.toNatClampNeg + 1) 0 1 := WF.ask (by show (fI _ oq _).toInt = _; rw [← m1370]; rfl) (by show 0 ≤ (fI _ aq _).toInt ∧ (fI _ aq _).toInt ≤ 13; rw [← m1371]; omega)
              refine lv_aload_n hx hb dX10_readUnit_97 rfl (lv_at hl1352 1 rfl) ?_
              refine x_V (As := []) (rest := []) C (a_X10_reads_e l K G H1361 (sp) (fr) (tk) (vl) (tp) bt hTH1361 ga0 gtq m1377 m1378 m1379 m1380 m1381 m1382 g1365 g1366 g1367 g1368 (by omega) (hy1) f1374) yo_X10_reads wM_X10_242 ⟨⟨by decide, by decide⟩, by decide, by decide⟩ (x_rv C hTH1361 (ci := 10) rfl ga0 rg_112) rfl hl1352.1 rfl (Nat.le_of_ble_eq_true rfl) dX10_readUnit_98 hSH1361 (AE_sub (fun _ _ => rfl) (by decide) hSH1361.1) (fun vH1386 H1386 locsH1386 pH1386 zH1386 kH1386 hSH1386 => ?_)
              obtain ⟨x1387, x1388, x1389, x1390, hvH1386, ex1387, ex1388, ex1389, ex1390, hrH1386, m1391, g1392, g1393, g1394, g1395, mf1396, m1397, m1398, m1399, hTH1386⟩ := pH1386
              subst hvH1386
              have b1400 : ∀ j : Nat, j < 3000 + mn.toNatClampNeg → fI H1386 oq j = fI s.heap oq j ∧ fI H1386 aq j = fI s.heap aq j := fun j hj => ⟨(fI_kept (x_lt hTH1361 kH1386 goq (by decide))).trans (b1385 j hj).1, (fI_kept (x_lt hTH1361 kH1386 gaq (by decide))).trans (b1385 j hj).2⟩
              have b1401 : WF (fun k => fI H1386 oq k) (fun k => fI H1386 aq k) (3000 + mn.toNatClampNeg) (3000 + mn.toNatClampNeg + 1) 0 1 := WF.congr (fun j => fI_kept (x_lt hTH1361 kH1386 goq (by decide))) (fun j => fI_kept (x_lt hTH1361 kH1386 gaq (by decide))) wf0
              have f1402 : ∀ j : Nat, bt j = (fI H1386 tq j).toInt := fun j => (f1374 j).trans (congrArg Int32.toInt (fI_kept (x_lt hTH1361 kH1386 gtq (by decide))).symm)
              have m1403 := (m1363).trans (MF.r mf1396 (k := 32) (by decide) (by decide)).symm
              have m1404 := (m1364).trans (MF.r mf1396 (k := 33) (by decide) (by decide)).symm
              have m1405 := (m1377).trans (MF.r mf1396 (k := 17) (by decide) (by decide)).symm
              have m1406 := (m1382).trans (MF.i mf1396 (k := 18) (by decide) (by decide)).symm
              have m1407 := (m1383).trans (MF.i mf1396 (k := 34) (by decide) (by decide)).symm
              have m1408 := (ex1362).trans (MF.i mf1396 (k := 35) (by decide) (by decide)).symm
              have mf1409 : MF K s.heap H1386 a0 [19, 20, 21, 22, 35, 39, 40] := MF.trans mf1384 mf1396 (by decide)
              have bx1387 := ty_fi (x := x1387) (k := 19) ex1387 hTH1386 ga0 rg_112 rfl
              have bx1388 := ty_fi (x := x1388) (k := 20) ex1388 hTH1386 ga0 rg_112 rfl
              have bx1389 := ty_fi (x := x1389) (k := 21) ex1389 hTH1386 ga0 rg_112 rfl
              have bx1390 := ty_fi (x := x1390) (k := 22) ex1390 hTH1386 ga0 rg_112 rfl
              have cn_x1388 := i_cl (x := x1388) (by omega)
              have cn_fr := i_cl (x := fr) (by omega)
              have cu1410 : CU bt tp.toNatClampNeg (ci + 1) x1388 x1387 x1389 x1390 := CU.next hy0 m1397 m1398 m1399 (by omega)
              refine W.eq (g2 := F0 m 101 ls1351 []) rfl ?_
              refine lv_iconst (v := 0) hx hb dX10_readUnit_101 (by decide) ?_
              have cr_mn := i_cl (x := mn) (by omega)
              have cr_x1362 := i_cl (x := x1362) (by omega)
              have tq1 := TV.nm hy0.2.2.1
              have tq2 := TV.wd hy0.2.2.1
              have tq3 := TV.wv hy0.2.2.1
              exact x_iret C hQ dX10_readUnit_102 hSH1386 (by decide) (by decide) (⟨0, x1387, x1388, x1389, x1390, x1362, rfl, by decide, ex1387, ex1388, ex1389, ex1390, m1408, by omega, m1403, m1404, m1391, g1392, g1393, g1394, g1395, mf1409, b1400, Or.inr (WF.cast b1401 (by omega) (by omega)), Or.inr (Or.inl (by omega)), Or.inr ⟨ci + 1, if_neg (by omega), by omega, cu1410⟩, hTH1386⟩)
        · have k1354 := i_eq c1353
          exfalso
          omega

set_option maxHeartbeats 4000000 in
set_option maxRecDepth 100000 in
theorem a_X10_readProduct_e (l : Launch) (K : KE) (G : Nat → Option Nat) (H : Heap) {a0 : Nat} {oq : Nat} {aq : Nat} {tq : Nat} (sp : Int32) (fr : Int32) (tk : Int32) (vl : Int32) (mn : Int32) (tp : Int32) (jb : Int32) (ci : Nat) (bt : Nat → Int) (hT : TY K G H) (ga0 : G a0 = some 112) (goq : G oq = some 136) (eoq : oq = fR H a0 (K.1.2 10 32)) (gaq : G aq = some 137) (eaq : aq = fR H a0 (K.1.2 10 33)) (gtq : G tq = some 126) (etq : tq = fR H a0 (K.1.2 10 17)) (esp : sp = fI H a0 (K.1.2 10 19)) (efr : fr = fI H a0 (K.1.2 10 20)) (etk : tk = fI H a0 (K.1.2 10 21)) (evl : vl = fI H a0 (K.1.2 10 22)) (emn : mn = fI H a0 (K.1.2 10 35)) (etp : tp = fI H a0 (K.1.2 10 18)) (ejb : jb = fI H a0 (K.1.2 10 34)) (hg_CG : CG (avw K H a0)) (hg_TU : TU (avw K H a0) (svw K H a0)) (hg_WD : WD (avw K H a0)) (hg_IM : IM (avw K H a0)) (hp0 : (sp.toInt ≤ tp.toInt ∧ fr.toInt ≤ sp.toInt ∧ (tk.toInt = 0 ∨ fr.toInt < sp.toInt) ∧ (tk.toInt ≠ 2 ∨ (0 ≤ vl.toInt ∧ vl.toInt ≤ 23)))) (hp1 : mn.toInt ≤ fr.toInt) (hy0 : CU bt tp.toNatClampNeg ci fr sp tk vl) (hy1 : ∀ j : Nat, j < tp.toNatClampNeg → 0 ≤ bt j) (hv_bt : ∀ j : Nat, bt j = (fI H tq j).toInt) : MX l K yX10_readProduct cX10_readProduct 2 (some .int) 4 86 0 0 [.ref a0] H (AE G [112, 136, 137] H.size) (fun v H1 => ∃ (r : Int32) (t0 : Int32) (t1 : Int32) (t2 : Int32) (t3 : Int32) (t4 : Int32), v = some (.int r) ∧ ((-1) ≤ r.toInt ∧ r.toInt ≤ 0) ∧ t0 = fI H1 a0 (K.1.2 10 19) ∧ t1 = fI H1 a0 (K.1.2 10 20) ∧ t2 = fI H1 a0 (K.1.2 10 21) ∧ t3 = fI H1 a0 (K.1.2 10 22) ∧ t4 = fI H1 a0 (K.1.2 10 35) ∧ (r.toInt = -1 ∨ (r.toInt = 0 ∧ t0.toInt ≤ tp.toInt ∧ t1.toInt ≤ t0.toInt ∧ (t2.toInt = 0 ∨ t1.toInt < t0.toInt) ∧ (t2.toInt ≠ 2 ∨ (0 ≤ t3.toInt ∧ t3.toInt ≤ 23)) ∧ t4.toInt + fr.toInt ≤ mn.toInt + t1.toInt ∧ mn.toInt < t4.toInt ∧ fr.toInt < t1.toInt)) ∧ oq = fR H1 a0 (K.1.2 10 32) ∧ aq = fR H1 a0 (K.1.2 10 33) ∧ tq = fR H1 a0 (K.1.2 10 17) ∧ (CG (avw K H1 a0)) ∧ (TU (avw K H1 a0) (svw K H1 a0)) ∧ (WD (avw K H1 a0)) ∧ (IM (avw K H1 a0)) ∧ MF K H H1 a0 [19, 20, 21, 22, 35, 39, 40] ∧ (∀ j : Nat, j < 3000 + mn.toNatClampNeg → fI H1 oq j = fI H oq j ∧ fI H1 aq j = fI H aq j) ∧ (r.toInt = -1 ∨ WF (fun k => fI H1 oq k) (fun k => fI H1 aq k) (3000 + mn.toNatClampNeg) (3000 + t4.toNatClampNeg) 0 1) ∧ (RC (tmI (kK bt tp.toNatClampNeg) (vV bt tp.toNatClampNeg) (1 - jb.toInt) 0 ci) r bt tp.toNatClampNeg t1 t0 t2 t3) ∧ TY K G H1) := by
  refine MX.of (by decide +kernel) (Nat.le_of_ble_eq_true rfl) ?_
  intro p e s m below meth c ls Q C hH hl hQ
  subst hH
  have C : CX p K s m _ meth c RX10 cX10_readProduct 2 (some .int) "readProduct" := C
  obtain ⟨hx, hb, hml, hown, hts, hKT, hr, hlocks, hnm⟩ := id C
  have hl : lv_has ls 2 [(0, .ref a0)] := hl
  have hS : va_S (AE G [112, 136, 137] s.heap.size) s.heap s.heap [] := va_S.rf
  have n_m1 : ((-1) : Int32).toInt = -1 := rfl
  have n_0 : (0 : Int32).toInt = 0 := rfl
  have n_1 : (1 : Int32).toInt = 1 := rfl
  have n_2 : (2 : Int32).toInt = 2 := rfl
  have n_3 : (3 : Int32).toInt = 3 := rfl
  have n_4 : (4 : Int32).toInt = 4 := rfl
  have n_5 : (5 : Int32).toInt = 5 := rfl
  have n_42 : (42 : Int32).toInt = 42 := rfl
  have n_47 : (47 : Int32).toInt = 47 := rfl
  have bsp := ty_fi (x := sp) (k := 19) esp hT ga0 rg_112 rfl
  have bfr := ty_fi (x := fr) (k := 20) efr hT ga0 rg_112 rfl
  have btk := ty_fi (x := tk) (k := 21) etk hT ga0 rg_112 rfl
  have bvl := ty_fi (x := vl) (k := 22) evl hT ga0 rg_112 rfl
  have bmn := ty_fi (x := mn) (k := 35) emn hT ga0 rg_112 rfl
  have btp := ty_fi (x := tp) (k := 18) etp hT ga0 rg_112 rfl
  have bjb := ty_fi (x := jb) (k := 34) ejb hT ga0 rg_112 rfl
  have hap : ∀ x y, x < 74 → y < 74 → x ≠ y → K.1.2 10 x ≠ K.1.2 10 y := x_apart hKT hts inX10 tyX10 tyX10_ok nmX10 rfl
  have mf0 : MF K s.heap s.heap a0 [19, 20, 21, 22, 35, 39, 40] := fun _ _ _ => rfl
  have f0_bt := hv_bt
  have J10 : ∀ (nf : Nat) (cj : Nat) (ls2146 : Array Slot) (H2145 : Heap) (locsH2145 : List Loc) (x2148 : Int32) (x2149 : Int32) (x2150 : Int32) (x2151 : Int32) (x2152 : Int32), lv_has ls2146 2 [(0, .ref a0)] → TY K G H2145 → va_S (AE G [112, 136, 137] s.heap.size) s.heap H2145 locsH2145 → (0 ≤ x2148.toInt ∧ x2148.toInt ≤ 500) → (0 ≤ x2149.toInt ∧ x2149.toInt ≤ 500) → (0 ≤ x2152.toInt ∧ x2152.toInt ≤ 500) → (x2148 = fI H2145 a0 (K.1.2 10 19)) → (x2149 = fI H2145 a0 (K.1.2 10 20)) → (x2150 = fI H2145 a0 (K.1.2 10 21)) → (x2151 = fI H2145 a0 (K.1.2 10 22)) → (x2152 = fI H2145 a0 (K.1.2 10 35)) → (oq = fR H2145 a0 (K.1.2 10 32)) → (aq = fR H2145 a0 (K.1.2 10 33)) → (tq = fR H2145 a0 (K.1.2 10 17)) → (tp = fI H2145 a0 (K.1.2 10 18)) → (jb = fI H2145 a0 (K.1.2 10 34)) → (∀ j : Nat, j < 3000 + mn.toNatClampNeg → fI H2145 oq j = fI s.heap oq j ∧ fI H2145 aq j = fI s.heap aq j) → (WF (fun k => fI H2145 oq k) (fun k => fI H2145 aq k) (3000 + mn.toNatClampNeg) (3000 + x2152.toNatClampNeg) 0 1) → (MF K s.heap H2145 a0 [19, 20, 21, 22, 35, 39, 40]) → (CG (avw K H2145 a0)) → (TU (avw K H2145 a0) (svw K H2145 a0)) → (WD (avw K H2145 a0)) → (IM (avw K H2145 a0)) → (∀ j : Nat, bt j = (fI H2145 tq j).toInt) → (500 - x2149.toInt < (nf : Int)) → ((x2148.toInt ≤ tp.toInt ∧ x2149.toInt ≤ x2148.toInt ∧ (x2150.toInt = 0 ∨ x2149.toInt < x2148.toInt) ∧ (x2150.toInt ≠ 2 ∨ (0 ≤ x2151.toInt ∧ x2151.toInt ≤ 23))) ∧ x2152.toInt + fr.toInt ≤ mn.toInt + x2149.toInt ∧ mn.toInt < x2152.toInt ∧ fr.toInt < x2149.toInt) → (CU bt tp.toNatClampNeg cj x2149 x2148 x2150 x2151) → (tmI (kK bt tp.toNatClampNeg) (vV bt tp.toNatClampNeg) (1 - jb.toInt) 0 ci = tbI (kK bt tp.toNatClampNeg) (vV bt tp.toNatClampNeg) (1 - jb.toInt) cj) → W p l e ({ frames := 4, cells := 0, slots := 0, locals := 86 } : Room) s m (([.ref a0] : List Value).toArray) below meth c H2145 locsH2145 0 0 Q (F0 m 10 ls2146 []) := by
    intro nf
    induction nf with
    | zero =>
      intro cj ls2146 H2145 locsH2145 x2148 x2149 x2150 x2151 x2152 hl2147 hTH2145 hSH2145 bx2148 bx2149 bx2152 ex2148 ex2149 ex2150 ex2151 ex2152 cy2153_0 cy2153_1 cy2153_2 cy2153_3 cy2153_4 by2153_pf by2153_wf mfy2153 gy2153_CG gy2153_TU gy2153_WD gy2153_IM fy2153_bt hm10 iv10 hcu10 hsp10
      have rx2150 := i_rng x2150
      have rx2151 := i_rng x2151
      exfalso
      omega
    | succ nf ih10 =>
      intro cj ls2146 H2145 locsH2145 x2148 x2149 x2150 x2151 x2152 hl2147 hTH2145 hSH2145 bx2148 bx2149 bx2152 ex2148 ex2149 ex2150 ex2151 ex2152 cy2153_0 cy2153_1 cy2153_2 cy2153_3 cy2153_4 by2153_pf by2153_wf mfy2153 gy2153_CG gy2153_TU gy2153_WD gy2153_IM fy2153_bt hm10 iv10 hcu10 hsp10
      have rx2150 := i_rng x2150
      have rx2151 := i_rng x2151
      have cn_x2149 := i_cl (x := x2149) (by omega)
      have cn_tp := i_cl (x := tp) (by omega)
      have cn_fr := i_cl (x := fr) (by omega)
      refine lv_aload_n hx hb dX10_readProduct_10 rfl (lv_at hl2147 0 rfl) ?_
      refine lv_bipush (v := 42) hx hb dX10_readProduct_11 (by decide) ?_
      refine x_V (As := [.int 42]) (rest := []) C (a_X10_isSign_e l K G H2145 (42) (x2150) (x2151) hTH2145 ga0 ex2150 ex2151) yo_X10_isSign wM_X10_249 ⟨⟨by decide, by decide⟩, by decide, by decide⟩ (x_rv C hTH2145 (ci := 10) rfl ga0 rg_112) rfl hl2147.1 rfl (Nat.le_of_ble_eq_true rfl) dX10_readProduct_13 hSH2145 (AE_sub (fun _ _ => rfl) (by decide) hSH2145.1) (fun vH2154 H2154 locsH2154 pH2154 zH2154 kH2154 hSH2154 => ?_)
      obtain ⟨x2155, hvH2154, bx2155, hrH2154, hTH2154⟩ := pH2154
      subst hvH2154
      have mf2156 : MF K s.heap H2154 a0 [19, 20, 21, 22, 35, 39, 40] := MF.eff (x_lt hTH2145 kH2154 ga0 (by decide)) mfy2153
      have b2157 : ∀ j : Nat, j < 3000 + mn.toNatClampNeg → fI H2154 oq j = fI s.heap oq j ∧ fI H2154 aq j = fI s.heap aq j := fun j hj => ⟨(fI_kept (x_lt hTH2145 kH2154 goq (by decide))).trans (by2153_pf j hj).1, (fI_kept (x_lt hTH2145 kH2154 gaq (by decide))).trans (by2153_pf j hj).2⟩
      have b2158 : WF (fun k => fI H2154 oq k) (fun k => fI H2154 aq k) (3000 + mn.toNatClampNeg) (3000 + x2152.toNatClampNeg) 0 1 := WF.congr (fun j => fI_kept (x_lt hTH2145 kH2154 goq (by decide))) (fun j => fI_kept (x_lt hTH2145 kH2154 gaq (by decide))) by2153_wf
      have g2159 : CG (avw K H2154 a0) := CG.congr (fun k hk j => av_eff hTH2145 kH2154 ga0 (by decide) (CG_eff [] (by decide) k hk)) gy2153_CG
      have g2160 : TU (avw K H2154 a0) (svw K H2154 a0) := TU.congr (fun k hk j => av_eff hTH2145 kH2154 ga0 (by decide) (TU_eff [] (by decide) k hk)) (fun k hk => sv_eff hTH2145 kH2154 ga0 (by decide)) gy2153_TU
      have g2161 : WD (avw K H2154 a0) := WD.congr (fun k hk j => av_eff hTH2145 kH2154 ga0 (by decide) (WD_eff [] (by decide) k hk)) gy2153_WD
      have g2162 : IM (avw K H2154 a0) := IM.congr (fun k hk j => av_eff hTH2145 kH2154 ga0 (by decide) (IM_eff [] (by decide) k hk)) gy2153_IM
      have f2163 : ∀ j : Nat, bt j = (fI H2154 tq j).toInt := fun j => (fy2153_bt j).trans (congrArg Int32.toInt (fI_kept (x_lt hTH2145 kH2154 gtq (by decide))).symm)
      have m2164 := (ex2148).trans (fI_kept (x_lt hTH2145 kH2154 ga0 (by decide))).symm
      have m2165 := (ex2149).trans (fI_kept (x_lt hTH2145 kH2154 ga0 (by decide))).symm
      have m2166 := (ex2150).trans (fI_kept (x_lt hTH2145 kH2154 ga0 (by decide))).symm
      have m2167 := (ex2151).trans (fI_kept (x_lt hTH2145 kH2154 ga0 (by decide))).symm
      have m2168 := (ex2152).trans (fI_kept (x_lt hTH2145 kH2154 ga0 (by decide))).symm
      have m2169 := (cy2153_0).trans (fR_kept (x_lt hTH2145 kH2154 ga0 (by decide))).symm
      have m2170 := (cy2153_1).trans (fR_kept (x_lt hTH2145 kH2154 ga0 (by decide))).symm
      have m2171 := (cy2153_2).trans (fR_kept (x_lt hTH2145 kH2154 ga0 (by decide))).symm
      have m2172 := (cy2153_3).trans (fI_kept (x_lt hTH2145 kH2154 ga0 (by decide))).symm
      have m2173 := (cy2153_4).trans (fI_kept (x_lt hTH2145 kH2154 ga0 (by decide))).symm
      refine W.eq (g2 := F0 m 16 ls2146 [.int x2155]) rfl ?_
      refine lv_if_ne (tgt := 28) hx hb dX10_readProduct_16 (by decide) (fun c2174 => ?_) (fun c2174 => ?_)
      · have k2175 := i_ne c2174
        refine lv_aload_n hx hb dX10_readProduct_28 rfl (lv_at hl2147 0 rfl) ?_
        refine lv_bipush (v := 42) hx hb dX10_readProduct_29 (by decide) ?_
        refine x_V (As := [.int 42]) (rest := []) C (a_X10_isSign_e l K G H2154 (42) (x2150) (x2151) hTH2154 ga0 m2166 m2167) yo_X10_isSign wM_X10_249 ⟨⟨by decide, by decide⟩, by decide, by decide⟩ (x_rv C hTH2154 (ci := 10) rfl ga0 rg_112) rfl hl2147.1 rfl (Nat.le_of_ble_eq_true rfl) dX10_readProduct_31 hSH2154 (AE_sub (fun _ _ => rfl) (by decide) hSH2154.1) (fun vH2176 H2176 locsH2176 pH2176 zH2176 kH2176 hSH2176 => ?_)
        obtain ⟨x2177, hvH2176, bx2177, hrH2176, hTH2176⟩ := pH2176
        subst hvH2176
        have mf2178 : MF K s.heap H2176 a0 [19, 20, 21, 22, 35, 39, 40] := MF.eff (x_lt hTH2154 kH2176 ga0 (by decide)) mf2156
        have b2179 : ∀ j : Nat, j < 3000 + mn.toNatClampNeg → fI H2176 oq j = fI s.heap oq j ∧ fI H2176 aq j = fI s.heap aq j := fun j hj => ⟨(fI_kept (x_lt hTH2154 kH2176 goq (by decide))).trans (b2157 j hj).1, (fI_kept (x_lt hTH2154 kH2176 gaq (by decide))).trans (b2157 j hj).2⟩
        have b2180 : WF (fun k => fI H2176 oq k) (fun k => fI H2176 aq k) (3000 + mn.toNatClampNeg) (3000 + x2152.toNatClampNeg) 0 1 := WF.congr (fun j => fI_kept (x_lt hTH2154 kH2176 goq (by decide))) (fun j => fI_kept (x_lt hTH2154 kH2176 gaq (by decide))) b2158
        have g2181 : CG (avw K H2176 a0) := CG.congr (fun k hk j => av_eff hTH2154 kH2176 ga0 (by decide) (CG_eff [] (by decide) k hk)) g2159
        have g2182 : TU (avw K H2176 a0) (svw K H2176 a0) := TU.congr (fun k hk j => av_eff hTH2154 kH2176 ga0 (by decide) (TU_eff [] (by decide) k hk)) (fun k hk => sv_eff hTH2154 kH2176 ga0 (by decide)) g2160
        have g2183 : WD (avw K H2176 a0) := WD.congr (fun k hk j => av_eff hTH2154 kH2176 ga0 (by decide) (WD_eff [] (by decide) k hk)) g2161
        have g2184 : IM (avw K H2176 a0) := IM.congr (fun k hk j => av_eff hTH2154 kH2176 ga0 (by decide) (IM_eff [] (by decide) k hk)) g2162
        have f2185 : ∀ j : Nat, bt j = (fI H2176 tq j).toInt := fun j => (f2163 j).trans (congrArg Int32.toInt (fI_kept (x_lt hTH2154 kH2176 gtq (by decide))).symm)
        have m2186 := (m2164).trans (fI_kept (x_lt hTH2154 kH2176 ga0 (by decide))).symm
        have m2187 := (m2165).trans (fI_kept (x_lt hTH2154 kH2176 ga0 (by decide))).symm
        have m2188 := (m2166).trans (fI_kept (x_lt hTH2154 kH2176 ga0 (by decide))).symm
        have m2189 := (m2167).trans (fI_kept (x_lt hTH2154 kH2176 ga0 (by decide))).symm
        have m2190 := (m2168).trans (fI_kept (x_lt hTH2154 kH2176 ga0 (by decide))).symm
        have m2191 := (m2169).trans (fR_kept (x_lt hTH2154 kH2176 ga0 (by decide))).symm
        have m2192 := (m2170).trans (fR_kept (x_lt hTH2154 kH2176 ga0 (by decide))).symm
        have m2193 := (m2171).trans (fR_kept (x_lt hTH2154 kH2176 ga0 (by decide))).symm
        have m2194 := (m2172).trans (fI_kept (x_lt hTH2154 kH2176 ga0 (by decide))).symm
        have m2195 := (m2173).trans (fI_kept (x_lt hTH2154 kH2176 ga0 (by decide))).symm
        refine W.eq (g2 := F0 m 34 ls2146 [.int x2177]) rfl ?_
        refine lv_istore_n (lv' := [(1, .int x2177), (0, .ref a0)]) hx hb dX10_readProduct_34 rfl hl2147 (by decide) rfl (fun ls2196 hl2197 => ?_)
        refine lv_aload_n hx hb dX10_readProduct_35 rfl (lv_at hl2197 1 rfl) ?_
        refine x_V (As := []) (rest := []) C (a_X10_reads_e l K G H2176 (x2148) (x2149) (x2150) (x2151) (tp) bt hTH2176 ga0 gtq m2193 m2186 m2187 m2188 m2189 m2194 g2181 g2182 g2183 g2184 (by omega) (hy1) f2185) yo_X10_reads wM_X10_242 ⟨⟨by decide, by decide⟩, by decide, by decide⟩ (x_rv C hTH2176 (ci := 10) rfl ga0 rg_112) rfl hl2197.1 rfl (Nat.le_of_ble_eq_true rfl) dX10_readProduct_36 hSH2176 (AE_sub (fun _ _ => rfl) (by decide) hSH2176.1) (fun vH2198 H2198 locsH2198 pH2198 zH2198 kH2198 hSH2198 => ?_)
        obtain ⟨x2199, x2200, x2201, x2202, hvH2198, ex2199, ex2200, ex2201, ex2202, hrH2198, m2203, g2204, g2205, g2206, g2207, mf2208, m2209, m2210, m2211, hTH2198⟩ := pH2198
        subst hvH2198
        have b2212 : ∀ j : Nat, j < 3000 + mn.toNatClampNeg → fI H2198 oq j = fI s.heap oq j ∧ fI H2198 aq j = fI s.heap aq j := fun j hj => ⟨(fI_kept (x_lt hTH2176 kH2198 goq (by decide))).trans (b2179 j hj).1, (fI_kept (x_lt hTH2176 kH2198 gaq (by decide))).trans (b2179 j hj).2⟩
        have b2213 : WF (fun k => fI H2198 oq k) (fun k => fI H2198 aq k) (3000 + mn.toNatClampNeg) (3000 + x2152.toNatClampNeg) 0 1 := WF.congr (fun j => fI_kept (x_lt hTH2176 kH2198 goq (by decide))) (fun j => fI_kept (x_lt hTH2176 kH2198 gaq (by decide))) b2180
        have f2214 : ∀ j : Nat, bt j = (fI H2198 tq j).toInt := fun j => (f2185 j).trans (congrArg Int32.toInt (fI_kept (x_lt hTH2176 kH2198 gtq (by decide))).symm)
        have m2215 := (m2190).trans (MF.i mf2208 (k := 35) (by decide) (by decide)).symm
        have m2216 := (m2191).trans (MF.r mf2208 (k := 32) (by decide) (by decide)).symm
        have m2217 := (m2192).trans (MF.r mf2208 (k := 33) (by decide) (by decide)).symm
        have m2218 := (m2193).trans (MF.r mf2208 (k := 17) (by decide) (by decide)).symm
        have m2219 := (m2194).trans (MF.i mf2208 (k := 18) (by decide) (by decide)).symm
        have m2220 := (m2195).trans (MF.i mf2208 (k := 34) (by decide) (by decide)).symm
        have mf2221 : MF K s.heap H2198 a0 [19, 20, 21, 22, 35, 39, 40] := MF.trans mf2178 mf2208 (by decide)
        have bx2199 := ty_fi (x := x2199) (k := 19) ex2199 hTH2198 ga0 rg_112 rfl
        have bx2200 := ty_fi (x := x2200) (k := 20) ex2200 hTH2198 ga0 rg_112 rfl
        have bx2201 := ty_fi (x := x2201) (k := 21) ex2201 hTH2198 ga0 rg_112 rfl
        have bx2202 := ty_fi (x := x2202) (k := 22) ex2202 hTH2198 ga0 rg_112 rfl
        have cn_x2200 := i_cl (x := x2200) (by omega)
        have cn_x2149 := i_cl (x := x2149) (by omega)
        have cu2222 : CU bt tp.toNatClampNeg (cj + 1) x2200 x2199 x2201 x2202 := CU.next hcu10 m2209 m2210 m2211 (by omega)
        refine W.eq (g2 := F0 m 39 ls2196 []) rfl ?_
        refine lv_iload_n hx hb dX10_readProduct_39 rfl (lv_at hl2197 0 rfl) ?_
        refine lv_if_ne (tgt := 57) hx hb dX10_readProduct_40 (by decide) (fun c2223 => ?_) (fun c2223 => ?_)
        · have k2224 := i_ne c2223
          refine lv_iload_n hx hb dX10_readProduct_57 rfl (lv_at hl2197 0 rfl) ?_
          refine lv_if_ne (tgt := 74) hx hb dX10_readProduct_58 (by decide) (fun c2225 => ?_) (fun c2225 => ?_)
          · have k2226 := i_ne c2225
            refine lv_aload_n hx hb dX10_readProduct_74 rfl (lv_at hl2197 1 rfl) ?_
            refine x_V (As := []) (rest := []) C (a_X10_readUnit_e l K G H2198 (x2199) (x2200) (x2201) (x2202) (x2152) (tp) (jb) ((cj + 1)) bt hTH2198 ga0 goq m2216 gaq m2217 gtq m2203 ex2199 ex2200 ex2201 ex2202 m2215 m2219 m2220 g2204 g2205 g2206 g2207 (by omega) (by omega) (cu2222) (hy1) f2214) yo_X10_readUnit wM_X10_245 ⟨⟨by decide, by decide⟩, by decide, by decide⟩ (x_rv C hTH2198 (ci := 10) rfl ga0 rg_112) rfl hl2197.1 rfl (Nat.le_of_ble_eq_true rfl) dX10_readProduct_75 hSH2198 (AE_sub (fun _ _ => rfl) (by decide) hSH2198.1) (fun vH2227 H2227 locsH2227 pH2227 zH2227 kH2227 hSH2227 => ?_)
            obtain ⟨x2228, x2229, x2230, x2231, x2232, x2233, hvH2227, bx2228, ex2229, ex2230, ex2231, ex2232, ex2233, hrH2227, m2234, m2235, m2236, g2237, g2238, g2239, g2240, mf2241, m2242, m2243, m2244, m2245, hTH2227⟩ := pH2227
            subst hvH2227
            have f2246 : ∀ j : Nat, bt j = (fI H2227 tq j).toInt := fun j => (f2214 j).trans (congrArg Int32.toInt (fI_kept (x_lt hTH2198 kH2227 gtq (by decide))).symm)
            have m2247 := (m2216).trans (MF.r mf2241 (k := 32) (by decide) (by decide)).symm
            have m2248 := (m2217).trans (MF.r mf2241 (k := 33) (by decide) (by decide)).symm
            have m2249 := (m2203).trans (MF.r mf2241 (k := 17) (by decide) (by decide)).symm
            have m2250 := (m2219).trans (MF.i mf2241 (k := 18) (by decide) (by decide)).symm
            have m2251 := (m2220).trans (MF.i mf2241 (k := 34) (by decide) (by decide)).symm
            have mf2252 : MF K s.heap H2227 a0 [19, 20, 21, 22, 35, 39, 40] := MF.trans mf2221 mf2241 (by decide)
            have bx2229 := ty_fi (x := x2229) (k := 19) ex2229 hTH2227 ga0 rg_112 rfl
            have bx2230 := ty_fi (x := x2230) (k := 20) ex2230 hTH2227 ga0 rg_112 rfl
            have bx2231 := ty_fi (x := x2231) (k := 21) ex2231 hTH2227 ga0 rg_112 rfl
            have bx2232 := ty_fi (x := x2232) (k := 22) ex2232 hTH2227 ga0 rg_112 rfl
            have bx2233 := ty_fi (x := x2233) (k := 35) ex2233 hTH2227 ga0 rg_112 rfl
            have csm2242 := i_cl (x := x2152) (by omega)
            have cs_mn := i_cl (x := mn) (by omega)
            have b2253 : ∀ j : Nat, j < 3000 + mn.toNatClampNeg → fI H2227 oq j = fI s.heap oq j ∧ fI H2227 aq j = fI s.heap aq j := fun j hj => ⟨(m2242 j (by omega)).1.trans (b2212 j hj).1, (m2242 j (by omega)).2.trans (b2212 j hj).2⟩
            have cs_mn := i_cl (x := mn) (by omega)
            have b2254 : WF (fun k => fI H2227 oq k) (fun k => fI H2227 aq k) (3000 + mn.toNatClampNeg) (3000 + x2152.toNatClampNeg) 0 1 := WF.keep b2213 (fun j hj => (m2242 j (by omega)).1) (fun j hj => (m2242 j (by omega)).2)
            refine W.eq (g2 := F0 m 78 ls2196 [.int x2228]) rfl ?_
            refine lv_iconst (v := (-1)) hx hb dX10_readProduct_78 (by decide) ?_
            refine lv_icmp_ne (tgt := 84) hx hb dX10_readProduct_79 (by decide) (fun c2255 => ?_) (fun c2255 => ?_)
            · have k2256 := i_ne c2255
              have wu0 : WF (fun k => fI H2227 oq k) (fun k => fI H2227 aq k) (3000 + x2152.toNatClampNeg) (3000 + x2233.toNatClampNeg) 0 1 := by
                rcases m2243 with h | h
                · exfalso; omega
                · exact h
              refine lv_aload_n hx hb dX10_readProduct_84 rfl (lv_at hl2197 1 rfl) ?_
              refine lv_iload_n hx hb dX10_readProduct_85 rfl (lv_at hl2197 0 rfl) ?_
              refine lv_if_eq (tgt := 93) hx hb dX10_readProduct_86 (by decide) (fun c2257 => ?_) (fun c2257 => ?_)
              · have k2258 := i_eq c2257
                exfalso
                omega
              · have k2258 := i_ne c2257
                refine lv_iconst (v := 4) hx hb dX10_readProduct_89 (by decide) ?_
                refine lv_goto (tgt := 94) hx hb dX10_readProduct_90 (by decide) ?_
                refine lv_iconst (v := 0) hx hb dX10_readProduct_94 (by decide) ?_
                refine x_V (As := [.int 4, .int 0]) (rest := []) C (a_X10_emits l K G H2227 (4) (0) (x2233) hTH2227 ga0 goq m2234 gaq m2235 ex2233 g2237 g2238 g2239 g2240 (by omega)) yo_X10_emits wM_X10_238 ⟨⟨by decide, by decide⟩, by decide, by decide⟩ (x_rv C hTH2227 (ci := 10) rfl ga0 rg_112) rfl hl2197.1 rfl (Nat.le_of_ble_eq_true rfl) dX10_readProduct_95 hSH2227 (AE_sub (fun _ _ => rfl) (by decide) hSH2227.1) (fun vH2259 H2259 locsH2259 pH2259 zH2259 kH2259 hSH2259 => ?_)
                obtain ⟨x2260, hvH2259, ex2260, hrH2259, m2261, m2262, g2263, g2264, g2265, g2266, mf2267, m2268, m2269, m2270, m2271, hTH2259⟩ := pH2259
                subst hvH2259
                have f2272 : ∀ j : Nat, bt j = (fI H2259 tq j).toInt := fun j => (f2246 j).trans (congrArg Int32.toInt (fI_kept (x_lt hTH2227 kH2259 gtq (by decide))).symm)
                have m2273 := (m2234).trans (MF.r mf2267 (k := 32) (by decide) (by decide)).symm
                have m2274 := (m2235).trans (MF.r mf2267 (k := 33) (by decide) (by decide)).symm
                have m2275 := (m2236).trans (MF.r mf2267 (k := 17) (by decide) (by decide)).symm
                have m2276 := (m2250).trans (MF.i mf2267 (k := 18) (by decide) (by decide)).symm
                have m2277 := (m2251).trans (MF.i mf2267 (k := 34) (by decide) (by decide)).symm
                have m2278 := (ex2229).trans (MF.i mf2267 (k := 19) (by decide) (by decide)).symm
                have m2279 := (ex2230).trans (MF.i mf2267 (k := 20) (by decide) (by decide)).symm
                have m2280 := (ex2231).trans (MF.i mf2267 (k := 21) (by decide) (by decide)).symm
                have m2281 := (ex2232).trans (MF.i mf2267 (k := 22) (by decide) (by decide)).symm
                have mf2282 : MF K s.heap H2259 a0 [19, 20, 21, 22, 35, 39, 40] := MF.trans mf2252 mf2267 (by decide)
                have bx2260 := ty_fi (x := x2260) (k := 35) ex2260 hTH2259 ga0 rg_112 rfl
                have cem2271 := i_cl (x := x2233) (by omega)
                have ce_mn := i_cl (x := mn) (by omega)
                have b2283 : ∀ j : Nat, j < 3000 + mn.toNatClampNeg → fI H2259 oq j = fI s.heap oq j ∧ fI H2259 aq j = fI s.heap aq j := fun j hj => ⟨(m2270 j (by omega)).trans (b2253 j hj).1, (m2271 j (by omega)).trans (b2253 j hj).2⟩
                have ce_mn := i_cl (x := mn) (by omega)
                have ce_x2152 := i_cl (x := x2152) (by omega)
                have b2284 : WF (fun k => fI H2259 oq k) (fun k => fI H2259 aq k) (3000 + mn.toNatClampNeg) (3000 + x2152.toNatClampNeg) 0 1 := WF.keep b2254 (fun j hj => m2270 j (by omega)) (fun j hj => m2271 j (by omega))
                have ce_x2152 := i_cl (x := x2152) (by omega)
                have b2285 : WF (fun k => fI H2259 oq k) (fun k => fI H2259 aq k) (3000 + x2152.toNatClampNeg) (3000 + x2233.toNatClampNeg) 0 1 := WF.keep wu0 (fun j hj => m2270 j (by omega)) (fun j hj => m2271 j (by omega))
                refine W.eq (g2 := F0 m 98 ls2196 []) rfl ?_
                have ho := congrArg Int32.toInt m2268
                have cb_mn := i_cl (x := mn) (by omega)
                have cb_x2152 := i_cl (x := x2152) (by omega)
                have cb_x2233 := i_cl (x := x2233) (by omega)
                have wn : WF (fun k => fI H2259 oq k) (fun k => fI H2259 aq k) (3000 + mn.toNatClampNeg) (3000 + x2233.toNatClampNeg + 1) 0 1 := WF.bin b2284 b2285 (by omega) (by omega) (by show 2 ≤ (fI _ oq _).toInt ∧ (fI _ oq _).toInt ≤ 11 ∧ (fI _ oq _).toInt ≠ 9; omega) (Or.inl (by show (fI _ oq _).toInt ≠ 5; omega))
                refine lv_goto (tgt := 10) hx hb dX10_readProduct_98 (by decide) ?_
                have cl_mn := i_cl (x := mn) (by omega)
                have cl_mn := i_cl (x := mn) (by omega)
                have cl_x2233 := i_cl (x := x2233) (by omega)
                have cl_x2260 := i_cl (x := x2260) (by omega)
                obtain ⟨cj2286, ho2288, cu2287⟩ := RC.yes m2245 (by omega)
                have cn_fr := i_cl (x := fr) (by omega)
                have ub_ := hcu10.2.2.2
                have k42_ : kK bt tp.toNatClampNeg cj = 42 := (TV.sg (c := 42) hcu10.2.2.1 (by decide)).mp ⟨by omega, by omega⟩
                exact ih10 cj2286 ls2196 H2259 locsH2259 (x2229) (x2230) (x2231) (x2232) (x2260) (lv_sub hl2197 [1] rfl) hTH2259 hSH2259 (by have := i_rng x2229; omega) (by have := i_rng x2230; omega) (by have := i_rng x2260; omega) m2278 m2279 m2280 m2281 ex2260 m2261 m2262 m2275 m2276 m2277 b2283 (WF.cast wn (by omega) (by omega)) mf2282 g2263 g2264 g2265 g2266 f2272 (by omega) (by omega) cu2287 (hsp10.trans (tb_t1 (by omega) k42_ ho2288))
            · have k2256 := i_eq c2255
              refine lv_iconst (v := (-1)) hx hb dX10_readProduct_82 (by decide) ?_
              have cn_fr := i_cl (x := fr) (by omega)
              have ub_ := hcu10.2.2.2
              have k42_ : kK bt tp.toNatClampNeg cj = 42 := (TV.sg (c := 42) hcu10.2.2.1 (by decide)).mp ⟨by omega, by omega⟩
              exact x_iret C hQ dX10_readProduct_83 hSH2227 (by decide) (by decide) (⟨(-1), x2229, x2230, x2231, x2232, x2233, rfl, by decide, ex2229, ex2230, ex2231, ex2232, ex2233, by omega, m2234, m2235, m2236, g2237, g2238, g2239, g2240, mf2252, b2253, Or.inl (by omega), Or.inl ⟨hsp10.trans (tb_t0 (by omega) k42_ (RC.no m2245 (by omega))), by omega⟩, hTH2227⟩)
          · have k2226 := i_eq c2225
            exfalso
            omega
        · have k2224 := i_eq c2223
          refine lv_aload_n hx hb dX10_readProduct_43 rfl (lv_at hl2197 1 rfl) ?_
          refine x_gi C hTH2198 (ci := 10) (k := 21) rfl inX10 (by decide) wF_X10_202 ga0 rg_112 rfl dX10_readProduct_44 (fun x2289 ex2289 bx2289 => ?_)
          have ux2289 : x2201 = x2289 := (ex2201).trans ex2289.symm
          subst ux2289
          refine lv_iconst (v := 3) hx hb dX10_readProduct_47 (by decide) ?_
          refine lv_icmp_eq (tgt := 57) hx hb dX10_readProduct_48 (by decide) (fun c2290 => ?_) (fun c2290 => ?_)
          · have k2291 := i_eq c2290
            refine lv_iload_n hx hb dX10_readProduct_57 rfl (lv_at hl2197 0 rfl) ?_
            refine lv_if_ne (tgt := 74) hx hb dX10_readProduct_58 (by decide) (fun c2292 => ?_) (fun c2292 => ?_)
            · have k2293 := i_ne c2292
              exfalso
              omega
            · have k2293 := i_eq c2292
              refine lv_aload_n hx hb dX10_readProduct_61 rfl (lv_at hl2197 1 rfl) ?_
              refine x_gi C hTH2198 (ci := 10) (k := 22) rfl inX10 (by decide) wF_X10_205 ga0 rg_112 rfl dX10_readProduct_62 (fun x2294 ex2294 bx2294 => ?_)
              have ux2294 : x2202 = x2294 := (ex2202).trans ex2294.symm
              subst ux2294
              refine lv_if_ne (tgt := 74) hx hb dX10_readProduct_65 (by decide) (fun c2295 => ?_) (fun c2295 => ?_)
              · have k2296 := i_ne c2295
                refine lv_aload_n hx hb dX10_readProduct_74 rfl (lv_at hl2197 1 rfl) ?_
                refine x_V (As := []) (rest := []) C (a_X10_readUnit_e l K G H2198 (x2199) (x2200) (x2201) (x2202) (x2152) (tp) (jb) ((cj + 1)) bt hTH2198 ga0 goq m2216 gaq m2217 gtq m2203 ex2199 ex2200 ex2201 ex2202 m2215 m2219 m2220 g2204 g2205 g2206 g2207 (by omega) (by omega) (cu2222) (hy1) f2214) yo_X10_readUnit wM_X10_245 ⟨⟨by decide, by decide⟩, by decide, by decide⟩ (x_rv C hTH2198 (ci := 10) rfl ga0 rg_112) rfl hl2197.1 rfl (Nat.le_of_ble_eq_true rfl) dX10_readProduct_75 hSH2198 (AE_sub (fun _ _ => rfl) (by decide) hSH2198.1) (fun vH2297 H2297 locsH2297 pH2297 zH2297 kH2297 hSH2297 => ?_)
                obtain ⟨x2298, x2299, x2300, x2301, x2302, x2303, hvH2297, bx2298, ex2299, ex2300, ex2301, ex2302, ex2303, hrH2297, m2304, m2305, m2306, g2307, g2308, g2309, g2310, mf2311, m2312, m2313, m2314, m2315, hTH2297⟩ := pH2297
                subst hvH2297
                have f2316 : ∀ j : Nat, bt j = (fI H2297 tq j).toInt := fun j => (f2214 j).trans (congrArg Int32.toInt (fI_kept (x_lt hTH2198 kH2297 gtq (by decide))).symm)
                have m2317 := (m2216).trans (MF.r mf2311 (k := 32) (by decide) (by decide)).symm
                have m2318 := (m2217).trans (MF.r mf2311 (k := 33) (by decide) (by decide)).symm
                have m2319 := (m2203).trans (MF.r mf2311 (k := 17) (by decide) (by decide)).symm
                have m2320 := (m2219).trans (MF.i mf2311 (k := 18) (by decide) (by decide)).symm
                have m2321 := (m2220).trans (MF.i mf2311 (k := 34) (by decide) (by decide)).symm
                have mf2322 : MF K s.heap H2297 a0 [19, 20, 21, 22, 35, 39, 40] := MF.trans mf2221 mf2311 (by decide)
                have bx2299 := ty_fi (x := x2299) (k := 19) ex2299 hTH2297 ga0 rg_112 rfl
                have bx2300 := ty_fi (x := x2300) (k := 20) ex2300 hTH2297 ga0 rg_112 rfl
                have bx2301 := ty_fi (x := x2301) (k := 21) ex2301 hTH2297 ga0 rg_112 rfl
                have bx2302 := ty_fi (x := x2302) (k := 22) ex2302 hTH2297 ga0 rg_112 rfl
                have bx2303 := ty_fi (x := x2303) (k := 35) ex2303 hTH2297 ga0 rg_112 rfl
                have csm2312 := i_cl (x := x2152) (by omega)
                have cs_mn := i_cl (x := mn) (by omega)
                have b2323 : ∀ j : Nat, j < 3000 + mn.toNatClampNeg → fI H2297 oq j = fI s.heap oq j ∧ fI H2297 aq j = fI s.heap aq j := fun j hj => ⟨(m2312 j (by omega)).1.trans (b2212 j hj).1, (m2312 j (by omega)).2.trans (b2212 j hj).2⟩
                have cs_mn := i_cl (x := mn) (by omega)
                have b2324 : WF (fun k => fI H2297 oq k) (fun k => fI H2297 aq k) (3000 + mn.toNatClampNeg) (3000 + x2152.toNatClampNeg) 0 1 := WF.keep b2213 (fun j hj => (m2312 j (by omega)).1) (fun j hj => (m2312 j (by omega)).2)
                refine W.eq (g2 := F0 m 78 ls2196 [.int x2298]) rfl ?_
                refine lv_iconst (v := (-1)) hx hb dX10_readProduct_78 (by decide) ?_
                refine lv_icmp_ne (tgt := 84) hx hb dX10_readProduct_79 (by decide) (fun c2325 => ?_) (fun c2325 => ?_)
                · have k2326 := i_ne c2325
                  have wu0 : WF (fun k => fI H2297 oq k) (fun k => fI H2297 aq k) (3000 + x2152.toNatClampNeg) (3000 + x2303.toNatClampNeg) 0 1 := by
                    rcases m2313 with h | h
                    · exfalso; omega
                    · exact h
                  have ev0 : (fI H2297 oq (3000 + x2152.toNatClampNeg)).toInt = 0 ∧ (fI H2297 aq (3000 + x2152.toNatClampNeg)).toInt = x2202.toInt := by
                    rcases m2314 with h | h | h
                    · exfalso; omega
                    · exfalso; omega
                    · exact h
                  refine lv_aload_n hx hb dX10_readProduct_84 rfl (lv_at hl2197 1 rfl) ?_
                  refine lv_iload_n hx hb dX10_readProduct_85 rfl (lv_at hl2197 0 rfl) ?_
                  refine lv_if_eq (tgt := 93) hx hb dX10_readProduct_86 (by decide) (fun c2327 => ?_) (fun c2327 => ?_)
                  · have k2328 := i_eq c2327
                    refine lv_iconst (v := 5) hx hb dX10_readProduct_93 (by decide) ?_
                    refine lv_iconst (v := 0) hx hb dX10_readProduct_94 (by decide) ?_
                    refine x_V (As := [.int 5, .int 0]) (rest := []) C (a_X10_emits l K G H2297 (5) (0) (x2303) hTH2297 ga0 goq m2304 gaq m2305 ex2303 g2307 g2308 g2309 g2310 (by omega)) yo_X10_emits wM_X10_238 ⟨⟨by decide, by decide⟩, by decide, by decide⟩ (x_rv C hTH2297 (ci := 10) rfl ga0 rg_112) rfl hl2197.1 rfl (Nat.le_of_ble_eq_true rfl) dX10_readProduct_95 hSH2297 (AE_sub (fun _ _ => rfl) (by decide) hSH2297.1) (fun vH2329 H2329 locsH2329 pH2329 zH2329 kH2329 hSH2329 => ?_)
                    obtain ⟨x2330, hvH2329, ex2330, hrH2329, m2331, m2332, g2333, g2334, g2335, g2336, mf2337, m2338, m2339, m2340, m2341, hTH2329⟩ := pH2329
                    subst hvH2329
                    have f2342 : ∀ j : Nat, bt j = (fI H2329 tq j).toInt := fun j => (f2316 j).trans (congrArg Int32.toInt (fI_kept (x_lt hTH2297 kH2329 gtq (by decide))).symm)
                    have m2343 := (m2304).trans (MF.r mf2337 (k := 32) (by decide) (by decide)).symm
                    have m2344 := (m2305).trans (MF.r mf2337 (k := 33) (by decide) (by decide)).symm
                    have m2345 := (m2306).trans (MF.r mf2337 (k := 17) (by decide) (by decide)).symm
                    have m2346 := (m2320).trans (MF.i mf2337 (k := 18) (by decide) (by decide)).symm
                    have m2347 := (m2321).trans (MF.i mf2337 (k := 34) (by decide) (by decide)).symm
                    have m2348 := (ex2299).trans (MF.i mf2337 (k := 19) (by decide) (by decide)).symm
                    have m2349 := (ex2300).trans (MF.i mf2337 (k := 20) (by decide) (by decide)).symm
                    have m2350 := (ex2301).trans (MF.i mf2337 (k := 21) (by decide) (by decide)).symm
                    have m2351 := (ex2302).trans (MF.i mf2337 (k := 22) (by decide) (by decide)).symm
                    have mf2352 : MF K s.heap H2329 a0 [19, 20, 21, 22, 35, 39, 40] := MF.trans mf2322 mf2337 (by decide)
                    have bx2330 := ty_fi (x := x2330) (k := 35) ex2330 hTH2329 ga0 rg_112 rfl
                    have cem2341 := i_cl (x := x2303) (by omega)
                    have ce_mn := i_cl (x := mn) (by omega)
                    have b2353 : ∀ j : Nat, j < 3000 + mn.toNatClampNeg → fI H2329 oq j = fI s.heap oq j ∧ fI H2329 aq j = fI s.heap aq j := fun j hj => ⟨(m2340 j (by omega)).trans (b2323 j hj).1, (m2341 j (by omega)).trans (b2323 j hj).2⟩
                    have ce_mn := i_cl (x := mn) (by omega)
                    have ce_x2152 := i_cl (x := x2152) (by omega)
                    have b2354 : WF (fun k => fI H2329 oq k) (fun k => fI H2329 aq k) (3000 + mn.toNatClampNeg) (3000 + x2152.toNatClampNeg) 0 1 := WF.keep b2324 (fun j hj => m2340 j (by omega)) (fun j hj => m2341 j (by omega))
                    have ce_x2152 := i_cl (x := x2152) (by omega)
                    have b2355 : WF (fun k => fI H2329 oq k) (fun k => fI H2329 aq k) (3000 + x2152.toNatClampNeg) (3000 + x2303.toNatClampNeg) 0 1 := WF.keep wu0 (fun j hj => m2340 j (by omega)) (fun j hj => m2341 j (by omega))
                    have ce_x2152 := i_cl (x := x2152) (by omega)
                    have b2356 : (fI H2329 oq (3000 + x2152.toNatClampNeg)).toInt = 0 ∧ (fI H2329 aq (3000 + x2152.toNatClampNeg)).toInt = x2202.toInt := ⟨(congrArg Int32.toInt (m2340 _ (by omega))).trans ev0.1, (congrArg Int32.toInt (m2341 _ (by omega))).trans ev0.2⟩
                    refine W.eq (g2 := F0 m 98 ls2196 []) rfl ?_
                    have ho := congrArg Int32.toInt m2338
                    have cb_mn := i_cl (x := mn) (by omega)
                    have cb_x2152 := i_cl (x := x2152) (by omega)
                    have cb_x2303 := i_cl (x := x2303) (by omega)
                    have ev1 : (fI H2329 oq (3000 + x2152.toNatClampNeg)).toInt = 0 ∧ (fI H2329 aq (3000 + x2152.toNatClampNeg)).toInt ≠ 0 := ⟨b2356.1, by rw [b2356.2]; omega⟩
                    have wn : WF (fun k => fI H2329 oq k) (fun k => fI H2329 aq k) (3000 + mn.toNatClampNeg) (3000 + x2303.toNatClampNeg + 1) 0 1 := WF.bin b2354 b2355 (by omega) (by omega) (by show 2 ≤ (fI _ oq _).toInt ∧ (fI _ oq _).toInt ≤ 11 ∧ (fI _ oq _).toInt ≠ 9; omega) (Or.inr ⟨by omega, ev1.1, ev1.2⟩)
                    refine lv_goto (tgt := 10) hx hb dX10_readProduct_98 (by decide) ?_
                    have cl_mn := i_cl (x := mn) (by omega)
                    have cl_mn := i_cl (x := mn) (by omega)
                    have cl_x2303 := i_cl (x := x2303) (by omega)
                    have cl_x2330 := i_cl (x := x2330) (by omega)
                    obtain ⟨cj2357, ho2359, cu2358⟩ := RC.yes m2315 (by omega)
                    have cn_fr := i_cl (x := fr) (by omega)
                    have ub_ := hcu10.2.2.2
                    have k47_ : kK bt tp.toNatClampNeg cj = 47 := (TV.sg (c := 47) hcu10.2.2.1 (by decide)).mp ⟨by omega, by omega⟩
                    have n2_ : kK bt tp.toNatClampNeg (cj + 1) = 24 := (TV.nm cu2222.2.2.1).mp (by omega)
                    have v2_ := TV.nv cu2222.2.2.1 (by omega)
                    have e2_ := un_at ho2359
                    exact ih10 cj2357 ls2196 H2329 locsH2329 (x2299) (x2300) (x2301) (x2302) (x2330) (lv_sub hl2197 [1] rfl) hTH2329 hSH2329 (by have := i_rng x2299; omega) (by have := i_rng x2300; omega) (by have := i_rng x2330; omega) m2348 m2349 m2350 m2351 ex2330 m2331 m2332 m2345 m2346 m2347 b2353 (WF.cast wn (by omega) (by omega)) mf2352 g2333 g2334 g2335 g2336 f2342 (by omega) (by omega) cu2358 (hsp10.trans ((tb_d1 (by omega) k47_ n2_ (fun z => by rw [z] at v2_; omega)).trans (by rw [e2_])))
                  · have k2328 := i_ne c2327
                    exfalso
                    omega
                · have k2326 := i_eq c2325
                  refine lv_iconst (v := (-1)) hx hb dX10_readProduct_82 (by decide) ?_
                  have cn_fr := i_cl (x := fr) (by omega)
                  have ub_ := hcu10.2.2.2
                  exact x_iret C hQ dX10_readProduct_83 hSH2297 (by decide) (by decide) (⟨(-1), x2299, x2300, x2301, x2302, x2303, rfl, by decide, ex2299, ex2300, ex2301, ex2302, ex2303, by omega, m2304, m2305, m2306, g2307, g2308, g2309, g2310, mf2322, b2323, Or.inl (by omega), (by exfalso; have z_ := (RC.no m2315 (by omega)).symm.trans (un_nm ((TV.nm cu2222.2.2.1).mp (by omega))); cases z_), hTH2297⟩)
              · have k2296 := i_eq c2295
                refine lv_aload_n hx hb dX10_readProduct_68 rfl (lv_at hl2197 1 rfl) ?_
                refine lv_iconst (v := 2) hx hb dX10_readProduct_69 (by decide) ?_
                refine x_V (As := [.int 2]) (rest := []) C (a_X10_fails l K G H2198 (2) hTH2198 ga0 g2204 g2205 g2206 g2207) yo_X10_fails wM_X10_235 ⟨⟨by decide, by decide⟩, by decide, by decide⟩ (x_rv C hTH2198 (ci := 10) rfl ga0 rg_112) rfl hl2197.1 rfl (Nat.le_of_ble_eq_true rfl) dX10_readProduct_70 hSH2198 (AE_sub (fun _ _ => rfl) (by decide) hSH2198.1) (fun vH2360 H2360 locsH2360 pH2360 zH2360 kH2360 hSH2360 => ?_)
                obtain ⟨x2361, hvH2360, bx2361, g2362, g2363, g2364, g2365, mf2366, hTH2360⟩ := pH2360
                subst hvH2360
                have b2367 : ∀ j : Nat, j < 3000 + mn.toNatClampNeg → fI H2360 oq j = fI s.heap oq j ∧ fI H2360 aq j = fI s.heap aq j := fun j hj => ⟨(fI_kept (x_lt hTH2198 kH2360 goq (by decide))).trans (b2212 j hj).1, (fI_kept (x_lt hTH2198 kH2360 gaq (by decide))).trans (b2212 j hj).2⟩
                have b2368 : WF (fun k => fI H2360 oq k) (fun k => fI H2360 aq k) (3000 + mn.toNatClampNeg) (3000 + x2152.toNatClampNeg) 0 1 := WF.congr (fun j => fI_kept (x_lt hTH2198 kH2360 goq (by decide))) (fun j => fI_kept (x_lt hTH2198 kH2360 gaq (by decide))) b2213
                have f2369 : ∀ j : Nat, bt j = (fI H2360 tq j).toInt := fun j => (f2214 j).trans (congrArg Int32.toInt (fI_kept (x_lt hTH2198 kH2360 gtq (by decide))).symm)
                have m2370 := (m2215).trans (MF.i mf2366 (k := 35) (by decide) (by decide)).symm
                have m2371 := (m2216).trans (MF.r mf2366 (k := 32) (by decide) (by decide)).symm
                have m2372 := (m2217).trans (MF.r mf2366 (k := 33) (by decide) (by decide)).symm
                have m2373 := (m2203).trans (MF.r mf2366 (k := 17) (by decide) (by decide)).symm
                have m2374 := (m2219).trans (MF.i mf2366 (k := 18) (by decide) (by decide)).symm
                have m2375 := (m2220).trans (MF.i mf2366 (k := 34) (by decide) (by decide)).symm
                have m2376 := (ex2199).trans (MF.i mf2366 (k := 19) (by decide) (by decide)).symm
                have m2377 := (ex2200).trans (MF.i mf2366 (k := 20) (by decide) (by decide)).symm
                have m2378 := (ex2201).trans (MF.i mf2366 (k := 21) (by decide) (by decide)).symm
                have m2379 := (ex2202).trans (MF.i mf2366 (k := 22) (by decide) (by decide)).symm
                have mf2380 : MF K s.heap H2360 a0 [19, 20, 21, 22, 35, 39, 40] := MF.trans mf2221 mf2366 (by decide)
                refine W.eq (g2 := F0 m 73 ls2196 [.int x2361]) rfl ?_
                have cn_fr := i_cl (x := fr) (by omega)
                have ub_ := hcu10.2.2.2
                have k47_ : kK bt tp.toNatClampNeg cj = 47 := (TV.sg (c := 47) hcu10.2.2.1 (by decide)).mp ⟨by omega, by omega⟩
                have v2_ := TV.nv cu2222.2.2.1 (by omega)
                exact x_iret C hQ dX10_readProduct_73 hSH2360 (by decide) (by decide) (⟨x2361, x2199, x2200, x2201, x2202, x2152, rfl, by omega, m2376, m2377, m2378, m2379, m2370, by omega, m2371, m2372, m2373, g2362, g2363, g2364, g2365, mf2380, b2367, Or.inl (by omega), Or.inl ⟨hsp10.trans (tb_d0 (by omega) k47_ (Or.inr ⟨(TV.nm cu2222.2.2.1).mp (by omega), by omega⟩)), by omega⟩, hTH2360⟩)
          · have k2291 := i_ne c2290
            refine lv_aload_n hx hb dX10_readProduct_51 rfl (lv_at hl2197 1 rfl) ?_
            refine lv_iconst (v := 1) hx hb dX10_readProduct_52 (by decide) ?_
            refine x_V (As := [.int 1]) (rest := []) C (a_X10_fails l K G H2198 (1) hTH2198 ga0 g2204 g2205 g2206 g2207) yo_X10_fails wM_X10_235 ⟨⟨by decide, by decide⟩, by decide, by decide⟩ (x_rv C hTH2198 (ci := 10) rfl ga0 rg_112) rfl hl2197.1 rfl (Nat.le_of_ble_eq_true rfl) dX10_readProduct_53 hSH2198 (AE_sub (fun _ _ => rfl) (by decide) hSH2198.1) (fun vH2381 H2381 locsH2381 pH2381 zH2381 kH2381 hSH2381 => ?_)
            obtain ⟨x2382, hvH2381, bx2382, g2383, g2384, g2385, g2386, mf2387, hTH2381⟩ := pH2381
            subst hvH2381
            have b2388 : ∀ j : Nat, j < 3000 + mn.toNatClampNeg → fI H2381 oq j = fI s.heap oq j ∧ fI H2381 aq j = fI s.heap aq j := fun j hj => ⟨(fI_kept (x_lt hTH2198 kH2381 goq (by decide))).trans (b2212 j hj).1, (fI_kept (x_lt hTH2198 kH2381 gaq (by decide))).trans (b2212 j hj).2⟩
            have b2389 : WF (fun k => fI H2381 oq k) (fun k => fI H2381 aq k) (3000 + mn.toNatClampNeg) (3000 + x2152.toNatClampNeg) 0 1 := WF.congr (fun j => fI_kept (x_lt hTH2198 kH2381 goq (by decide))) (fun j => fI_kept (x_lt hTH2198 kH2381 gaq (by decide))) b2213
            have f2390 : ∀ j : Nat, bt j = (fI H2381 tq j).toInt := fun j => (f2214 j).trans (congrArg Int32.toInt (fI_kept (x_lt hTH2198 kH2381 gtq (by decide))).symm)
            have m2391 := (m2215).trans (MF.i mf2387 (k := 35) (by decide) (by decide)).symm
            have m2392 := (m2216).trans (MF.r mf2387 (k := 32) (by decide) (by decide)).symm
            have m2393 := (m2217).trans (MF.r mf2387 (k := 33) (by decide) (by decide)).symm
            have m2394 := (m2203).trans (MF.r mf2387 (k := 17) (by decide) (by decide)).symm
            have m2395 := (m2219).trans (MF.i mf2387 (k := 18) (by decide) (by decide)).symm
            have m2396 := (m2220).trans (MF.i mf2387 (k := 34) (by decide) (by decide)).symm
            have m2397 := (ex2199).trans (MF.i mf2387 (k := 19) (by decide) (by decide)).symm
            have m2398 := (ex2200).trans (MF.i mf2387 (k := 20) (by decide) (by decide)).symm
            have m2399 := (ex2201).trans (MF.i mf2387 (k := 21) (by decide) (by decide)).symm
            have m2400 := (ex2202).trans (MF.i mf2387 (k := 22) (by decide) (by decide)).symm
            have mf2401 : MF K s.heap H2381 a0 [19, 20, 21, 22, 35, 39, 40] := MF.trans mf2221 mf2387 (by decide)
            refine W.eq (g2 := F0 m 56 ls2196 [.int x2382]) rfl ?_
            have cn_fr := i_cl (x := fr) (by omega)
            have ub_ := hcu10.2.2.2
            have k47_ : kK bt tp.toNatClampNeg cj = 47 := (TV.sg (c := 47) hcu10.2.2.1 (by decide)).mp ⟨by omega, by omega⟩
            exact x_iret C hQ dX10_readProduct_56 hSH2381 (by decide) (by decide) (⟨x2382, x2199, x2200, x2201, x2202, x2152, rfl, by omega, m2397, m2398, m2399, m2400, m2391, by omega, m2392, m2393, m2394, g2383, g2384, g2385, g2386, mf2401, b2388, Or.inl (by omega), Or.inl ⟨hsp10.trans (tb_d0 (by omega) k47_ (Or.inl (fun e => by have z_ := (TV.nm cu2222.2.2.1).mpr e; omega))), by omega⟩, hTH2381⟩)
      · have k2175 := i_eq c2174
        refine lv_aload_n hx hb dX10_readProduct_19 rfl (lv_at hl2147 0 rfl) ?_
        refine lv_bipush (v := 47) hx hb dX10_readProduct_20 (by decide) ?_
        refine x_V (As := [.int 47]) (rest := []) C (a_X10_isSign_e l K G H2154 (47) (x2150) (x2151) hTH2154 ga0 m2166 m2167) yo_X10_isSign wM_X10_249 ⟨⟨by decide, by decide⟩, by decide, by decide⟩ (x_rv C hTH2154 (ci := 10) rfl ga0 rg_112) rfl hl2147.1 rfl (Nat.le_of_ble_eq_true rfl) dX10_readProduct_22 hSH2154 (AE_sub (fun _ _ => rfl) (by decide) hSH2154.1) (fun vH2402 H2402 locsH2402 pH2402 zH2402 kH2402 hSH2402 => ?_)
        obtain ⟨x2403, hvH2402, bx2403, hrH2402, hTH2402⟩ := pH2402
        subst hvH2402
        have mf2404 : MF K s.heap H2402 a0 [19, 20, 21, 22, 35, 39, 40] := MF.eff (x_lt hTH2154 kH2402 ga0 (by decide)) mf2156
        have b2405 : ∀ j : Nat, j < 3000 + mn.toNatClampNeg → fI H2402 oq j = fI s.heap oq j ∧ fI H2402 aq j = fI s.heap aq j := fun j hj => ⟨(fI_kept (x_lt hTH2154 kH2402 goq (by decide))).trans (b2157 j hj).1, (fI_kept (x_lt hTH2154 kH2402 gaq (by decide))).trans (b2157 j hj).2⟩
        have b2406 : WF (fun k => fI H2402 oq k) (fun k => fI H2402 aq k) (3000 + mn.toNatClampNeg) (3000 + x2152.toNatClampNeg) 0 1 := WF.congr (fun j => fI_kept (x_lt hTH2154 kH2402 goq (by decide))) (fun j => fI_kept (x_lt hTH2154 kH2402 gaq (by decide))) b2158
        have g2407 : CG (avw K H2402 a0) := CG.congr (fun k hk j => av_eff hTH2154 kH2402 ga0 (by decide) (CG_eff [] (by decide) k hk)) g2159
        have g2408 : TU (avw K H2402 a0) (svw K H2402 a0) := TU.congr (fun k hk j => av_eff hTH2154 kH2402 ga0 (by decide) (TU_eff [] (by decide) k hk)) (fun k hk => sv_eff hTH2154 kH2402 ga0 (by decide)) g2160
        have g2409 : WD (avw K H2402 a0) := WD.congr (fun k hk j => av_eff hTH2154 kH2402 ga0 (by decide) (WD_eff [] (by decide) k hk)) g2161
        have g2410 : IM (avw K H2402 a0) := IM.congr (fun k hk j => av_eff hTH2154 kH2402 ga0 (by decide) (IM_eff [] (by decide) k hk)) g2162
        have f2411 : ∀ j : Nat, bt j = (fI H2402 tq j).toInt := fun j => (f2163 j).trans (congrArg Int32.toInt (fI_kept (x_lt hTH2154 kH2402 gtq (by decide))).symm)
        have m2412 := (m2164).trans (fI_kept (x_lt hTH2154 kH2402 ga0 (by decide))).symm
        have m2413 := (m2165).trans (fI_kept (x_lt hTH2154 kH2402 ga0 (by decide))).symm
        have m2414 := (m2166).trans (fI_kept (x_lt hTH2154 kH2402 ga0 (by decide))).symm
        have m2415 := (m2167).trans (fI_kept (x_lt hTH2154 kH2402 ga0 (by decide))).symm
        have m2416 := (m2168).trans (fI_kept (x_lt hTH2154 kH2402 ga0 (by decide))).symm
        have m2417 := (m2169).trans (fR_kept (x_lt hTH2154 kH2402 ga0 (by decide))).symm
        have m2418 := (m2170).trans (fR_kept (x_lt hTH2154 kH2402 ga0 (by decide))).symm
        have m2419 := (m2171).trans (fR_kept (x_lt hTH2154 kH2402 ga0 (by decide))).symm
        have m2420 := (m2172).trans (fI_kept (x_lt hTH2154 kH2402 ga0 (by decide))).symm
        have m2421 := (m2173).trans (fI_kept (x_lt hTH2154 kH2402 ga0 (by decide))).symm
        refine W.eq (g2 := F0 m 25 ls2146 [.int x2403]) rfl ?_
        refine lv_if_eq (tgt := 101) hx hb dX10_readProduct_25 (by decide) (fun c2422 => ?_) (fun c2422 => ?_)
        · have k2423 := i_eq c2422
          refine lv_iconst (v := 0) hx hb dX10_readProduct_101 (by decide) ?_
          have cr_mn := i_cl (x := mn) (by omega)
          have cr_x2152 := i_cl (x := x2152) (by omega)
          have cn_fr := i_cl (x := fr) (by omega)
          have ub_ := hcu10.2.2.2
          have k42_ : kK bt tp.toNatClampNeg cj ≠ 42 := fun e => by have z_ := (TV.sg (c := 42) hcu10.2.2.1 (by decide)).mpr e; omega
          have k47_ : kK bt tp.toNatClampNeg cj ≠ 47 := fun e => by have z_ := (TV.sg (c := 47) hcu10.2.2.1 (by decide)).mpr e; omega
          exact x_iret C hQ dX10_readProduct_102 hSH2402 (by decide) (by decide) (⟨0, x2148, x2149, x2150, x2151, x2152, rfl, by decide, m2412, m2413, m2414, m2415, m2416, by omega, m2417, m2418, m2419, g2407, g2408, g2409, g2410, mf2404, b2405, Or.inr (WF.cast b2406 (by omega) (by omega)), Or.inr ⟨cj, hsp10.trans (tb_end ⟨k42_, k47_⟩), by omega, hcu10⟩, hTH2402⟩)
        · have k2423 := i_ne c2422
          refine lv_aload_n hx hb dX10_readProduct_28 rfl (lv_at hl2147 0 rfl) ?_
          refine lv_bipush (v := 42) hx hb dX10_readProduct_29 (by decide) ?_
          refine x_V (As := [.int 42]) (rest := []) C (a_X10_isSign_e l K G H2402 (42) (x2150) (x2151) hTH2402 ga0 m2414 m2415) yo_X10_isSign wM_X10_249 ⟨⟨by decide, by decide⟩, by decide, by decide⟩ (x_rv C hTH2402 (ci := 10) rfl ga0 rg_112) rfl hl2147.1 rfl (Nat.le_of_ble_eq_true rfl) dX10_readProduct_31 hSH2402 (AE_sub (fun _ _ => rfl) (by decide) hSH2402.1) (fun vH2424 H2424 locsH2424 pH2424 zH2424 kH2424 hSH2424 => ?_)
          obtain ⟨x2425, hvH2424, bx2425, hrH2424, hTH2424⟩ := pH2424
          subst hvH2424
          have mf2426 : MF K s.heap H2424 a0 [19, 20, 21, 22, 35, 39, 40] := MF.eff (x_lt hTH2402 kH2424 ga0 (by decide)) mf2404
          have b2427 : ∀ j : Nat, j < 3000 + mn.toNatClampNeg → fI H2424 oq j = fI s.heap oq j ∧ fI H2424 aq j = fI s.heap aq j := fun j hj => ⟨(fI_kept (x_lt hTH2402 kH2424 goq (by decide))).trans (b2405 j hj).1, (fI_kept (x_lt hTH2402 kH2424 gaq (by decide))).trans (b2405 j hj).2⟩
          have b2428 : WF (fun k => fI H2424 oq k) (fun k => fI H2424 aq k) (3000 + mn.toNatClampNeg) (3000 + x2152.toNatClampNeg) 0 1 := WF.congr (fun j => fI_kept (x_lt hTH2402 kH2424 goq (by decide))) (fun j => fI_kept (x_lt hTH2402 kH2424 gaq (by decide))) b2406
          have g2429 : CG (avw K H2424 a0) := CG.congr (fun k hk j => av_eff hTH2402 kH2424 ga0 (by decide) (CG_eff [] (by decide) k hk)) g2407
          have g2430 : TU (avw K H2424 a0) (svw K H2424 a0) := TU.congr (fun k hk j => av_eff hTH2402 kH2424 ga0 (by decide) (TU_eff [] (by decide) k hk)) (fun k hk => sv_eff hTH2402 kH2424 ga0 (by decide)) g2408
          have g2431 : WD (avw K H2424 a0) := WD.congr (fun k hk j => av_eff hTH2402 kH2424 ga0 (by decide) (WD_eff [] (by decide) k hk)) g2409
          have g2432 : IM (avw K H2424 a0) := IM.congr (fun k hk j => av_eff hTH2402 kH2424 ga0 (by decide) (IM_eff [] (by decide) k hk)) g2410
          have f2433 : ∀ j : Nat, bt j = (fI H2424 tq j).toInt := fun j => (f2411 j).trans (congrArg Int32.toInt (fI_kept (x_lt hTH2402 kH2424 gtq (by decide))).symm)
          have m2434 := (m2412).trans (fI_kept (x_lt hTH2402 kH2424 ga0 (by decide))).symm
          have m2435 := (m2413).trans (fI_kept (x_lt hTH2402 kH2424 ga0 (by decide))).symm
          have m2436 := (m2414).trans (fI_kept (x_lt hTH2402 kH2424 ga0 (by decide))).symm
          have m2437 := (m2415).trans (fI_kept (x_lt hTH2402 kH2424 ga0 (by decide))).symm
          have m2438 := (m2416).trans (fI_kept (x_lt hTH2402 kH2424 ga0 (by decide))).symm
          have m2439 := (m2417).trans (fR_kept (x_lt hTH2402 kH2424 ga0 (by decide))).symm
          have m2440 := (m2418).trans (fR_kept (x_lt hTH2402 kH2424 ga0 (by decide))).symm
          have m2441 := (m2419).trans (fR_kept (x_lt hTH2402 kH2424 ga0 (by decide))).symm
          have m2442 := (m2420).trans (fI_kept (x_lt hTH2402 kH2424 ga0 (by decide))).symm
          have m2443 := (m2421).trans (fI_kept (x_lt hTH2402 kH2424 ga0 (by decide))).symm
          refine W.eq (g2 := F0 m 34 ls2146 [.int x2425]) rfl ?_
          refine lv_istore_n (lv' := [(1, .int x2425), (0, .ref a0)]) hx hb dX10_readProduct_34 rfl hl2147 (by decide) rfl (fun ls2444 hl2445 => ?_)
          refine lv_aload_n hx hb dX10_readProduct_35 rfl (lv_at hl2445 1 rfl) ?_
          refine x_V (As := []) (rest := []) C (a_X10_reads_e l K G H2424 (x2148) (x2149) (x2150) (x2151) (tp) bt hTH2424 ga0 gtq m2441 m2434 m2435 m2436 m2437 m2442 g2429 g2430 g2431 g2432 (by omega) (hy1) f2433) yo_X10_reads wM_X10_242 ⟨⟨by decide, by decide⟩, by decide, by decide⟩ (x_rv C hTH2424 (ci := 10) rfl ga0 rg_112) rfl hl2445.1 rfl (Nat.le_of_ble_eq_true rfl) dX10_readProduct_36 hSH2424 (AE_sub (fun _ _ => rfl) (by decide) hSH2424.1) (fun vH2446 H2446 locsH2446 pH2446 zH2446 kH2446 hSH2446 => ?_)
          obtain ⟨x2447, x2448, x2449, x2450, hvH2446, ex2447, ex2448, ex2449, ex2450, hrH2446, m2451, g2452, g2453, g2454, g2455, mf2456, m2457, m2458, m2459, hTH2446⟩ := pH2446
          subst hvH2446
          have b2460 : ∀ j : Nat, j < 3000 + mn.toNatClampNeg → fI H2446 oq j = fI s.heap oq j ∧ fI H2446 aq j = fI s.heap aq j := fun j hj => ⟨(fI_kept (x_lt hTH2424 kH2446 goq (by decide))).trans (b2427 j hj).1, (fI_kept (x_lt hTH2424 kH2446 gaq (by decide))).trans (b2427 j hj).2⟩
          have b2461 : WF (fun k => fI H2446 oq k) (fun k => fI H2446 aq k) (3000 + mn.toNatClampNeg) (3000 + x2152.toNatClampNeg) 0 1 := WF.congr (fun j => fI_kept (x_lt hTH2424 kH2446 goq (by decide))) (fun j => fI_kept (x_lt hTH2424 kH2446 gaq (by decide))) b2428
          have f2462 : ∀ j : Nat, bt j = (fI H2446 tq j).toInt := fun j => (f2433 j).trans (congrArg Int32.toInt (fI_kept (x_lt hTH2424 kH2446 gtq (by decide))).symm)
          have m2463 := (m2438).trans (MF.i mf2456 (k := 35) (by decide) (by decide)).symm
          have m2464 := (m2439).trans (MF.r mf2456 (k := 32) (by decide) (by decide)).symm
          have m2465 := (m2440).trans (MF.r mf2456 (k := 33) (by decide) (by decide)).symm
          have m2466 := (m2441).trans (MF.r mf2456 (k := 17) (by decide) (by decide)).symm
          have m2467 := (m2442).trans (MF.i mf2456 (k := 18) (by decide) (by decide)).symm
          have m2468 := (m2443).trans (MF.i mf2456 (k := 34) (by decide) (by decide)).symm
          have mf2469 : MF K s.heap H2446 a0 [19, 20, 21, 22, 35, 39, 40] := MF.trans mf2426 mf2456 (by decide)
          have bx2447 := ty_fi (x := x2447) (k := 19) ex2447 hTH2446 ga0 rg_112 rfl
          have bx2448 := ty_fi (x := x2448) (k := 20) ex2448 hTH2446 ga0 rg_112 rfl
          have bx2449 := ty_fi (x := x2449) (k := 21) ex2449 hTH2446 ga0 rg_112 rfl
          have bx2450 := ty_fi (x := x2450) (k := 22) ex2450 hTH2446 ga0 rg_112 rfl
          have cn_x2448 := i_cl (x := x2448) (by omega)
          have cn_x2149 := i_cl (x := x2149) (by omega)
          have cu2470 : CU bt tp.toNatClampNeg (cj + 1) x2448 x2447 x2449 x2450 := CU.next hcu10 m2457 m2458 m2459 (by omega)
          refine W.eq (g2 := F0 m 39 ls2444 []) rfl ?_
          refine lv_iload_n hx hb dX10_readProduct_39 rfl (lv_at hl2445 0 rfl) ?_
          refine lv_if_ne (tgt := 57) hx hb dX10_readProduct_40 (by decide) (fun c2471 => ?_) (fun c2471 => ?_)
          · have k2472 := i_ne c2471
            refine lv_iload_n hx hb dX10_readProduct_57 rfl (lv_at hl2445 0 rfl) ?_
            refine lv_if_ne (tgt := 74) hx hb dX10_readProduct_58 (by decide) (fun c2473 => ?_) (fun c2473 => ?_)
            · have k2474 := i_ne c2473
              refine lv_aload_n hx hb dX10_readProduct_74 rfl (lv_at hl2445 1 rfl) ?_
              refine x_V (As := []) (rest := []) C (a_X10_readUnit_e l K G H2446 (x2447) (x2448) (x2449) (x2450) (x2152) (tp) (jb) ((cj + 1)) bt hTH2446 ga0 goq m2464 gaq m2465 gtq m2451 ex2447 ex2448 ex2449 ex2450 m2463 m2467 m2468 g2452 g2453 g2454 g2455 (by omega) (by omega) (cu2470) (hy1) f2462) yo_X10_readUnit wM_X10_245 ⟨⟨by decide, by decide⟩, by decide, by decide⟩ (x_rv C hTH2446 (ci := 10) rfl ga0 rg_112) rfl hl2445.1 rfl (Nat.le_of_ble_eq_true rfl) dX10_readProduct_75 hSH2446 (AE_sub (fun _ _ => rfl) (by decide) hSH2446.1) (fun vH2475 H2475 locsH2475 pH2475 zH2475 kH2475 hSH2475 => ?_)
              obtain ⟨x2476, x2477, x2478, x2479, x2480, x2481, hvH2475, bx2476, ex2477, ex2478, ex2479, ex2480, ex2481, hrH2475, m2482, m2483, m2484, g2485, g2486, g2487, g2488, mf2489, m2490, m2491, m2492, m2493, hTH2475⟩ := pH2475
              subst hvH2475
              have f2494 : ∀ j : Nat, bt j = (fI H2475 tq j).toInt := fun j => (f2462 j).trans (congrArg Int32.toInt (fI_kept (x_lt hTH2446 kH2475 gtq (by decide))).symm)
              have m2495 := (m2464).trans (MF.r mf2489 (k := 32) (by decide) (by decide)).symm
              have m2496 := (m2465).trans (MF.r mf2489 (k := 33) (by decide) (by decide)).symm
              have m2497 := (m2451).trans (MF.r mf2489 (k := 17) (by decide) (by decide)).symm
              have m2498 := (m2467).trans (MF.i mf2489 (k := 18) (by decide) (by decide)).symm
              have m2499 := (m2468).trans (MF.i mf2489 (k := 34) (by decide) (by decide)).symm
              have mf2500 : MF K s.heap H2475 a0 [19, 20, 21, 22, 35, 39, 40] := MF.trans mf2469 mf2489 (by decide)
              have bx2477 := ty_fi (x := x2477) (k := 19) ex2477 hTH2475 ga0 rg_112 rfl
              have bx2478 := ty_fi (x := x2478) (k := 20) ex2478 hTH2475 ga0 rg_112 rfl
              have bx2479 := ty_fi (x := x2479) (k := 21) ex2479 hTH2475 ga0 rg_112 rfl
              have bx2480 := ty_fi (x := x2480) (k := 22) ex2480 hTH2475 ga0 rg_112 rfl
              have bx2481 := ty_fi (x := x2481) (k := 35) ex2481 hTH2475 ga0 rg_112 rfl
              have csm2490 := i_cl (x := x2152) (by omega)
              have cs_mn := i_cl (x := mn) (by omega)
              have b2501 : ∀ j : Nat, j < 3000 + mn.toNatClampNeg → fI H2475 oq j = fI s.heap oq j ∧ fI H2475 aq j = fI s.heap aq j := fun j hj => ⟨(m2490 j (by omega)).1.trans (b2460 j hj).1, (m2490 j (by omega)).2.trans (b2460 j hj).2⟩
              have cs_mn := i_cl (x := mn) (by omega)
              have b2502 : WF (fun k => fI H2475 oq k) (fun k => fI H2475 aq k) (3000 + mn.toNatClampNeg) (3000 + x2152.toNatClampNeg) 0 1 := WF.keep b2461 (fun j hj => (m2490 j (by omega)).1) (fun j hj => (m2490 j (by omega)).2)
              refine W.eq (g2 := F0 m 78 ls2444 [.int x2476]) rfl ?_
              refine lv_iconst (v := (-1)) hx hb dX10_readProduct_78 (by decide) ?_
              refine lv_icmp_ne (tgt := 84) hx hb dX10_readProduct_79 (by decide) (fun c2503 => ?_) (fun c2503 => ?_)
              · have k2504 := i_ne c2503
                have wu0 : WF (fun k => fI H2475 oq k) (fun k => fI H2475 aq k) (3000 + x2152.toNatClampNeg) (3000 + x2481.toNatClampNeg) 0 1 := by
                  rcases m2491 with h | h
                  · exfalso; omega
                  · exact h
                refine lv_aload_n hx hb dX10_readProduct_84 rfl (lv_at hl2445 1 rfl) ?_
                refine lv_iload_n hx hb dX10_readProduct_85 rfl (lv_at hl2445 0 rfl) ?_
                refine lv_if_eq (tgt := 93) hx hb dX10_readProduct_86 (by decide) (fun c2505 => ?_) (fun c2505 => ?_)
                · have k2506 := i_eq c2505
                  exfalso
                  omega
                · have k2506 := i_ne c2505
                  refine lv_iconst (v := 4) hx hb dX10_readProduct_89 (by decide) ?_
                  refine lv_goto (tgt := 94) hx hb dX10_readProduct_90 (by decide) ?_
                  refine lv_iconst (v := 0) hx hb dX10_readProduct_94 (by decide) ?_
                  refine x_V (As := [.int 4, .int 0]) (rest := []) C (a_X10_emits l K G H2475 (4) (0) (x2481) hTH2475 ga0 goq m2482 gaq m2483 ex2481 g2485 g2486 g2487 g2488 (by omega)) yo_X10_emits wM_X10_238 ⟨⟨by decide, by decide⟩, by decide, by decide⟩ (x_rv C hTH2475 (ci := 10) rfl ga0 rg_112) rfl hl2445.1 rfl (Nat.le_of_ble_eq_true rfl) dX10_readProduct_95 hSH2475 (AE_sub (fun _ _ => rfl) (by decide) hSH2475.1) (fun vH2507 H2507 locsH2507 pH2507 zH2507 kH2507 hSH2507 => ?_)
                  obtain ⟨x2508, hvH2507, ex2508, hrH2507, m2509, m2510, g2511, g2512, g2513, g2514, mf2515, m2516, m2517, m2518, m2519, hTH2507⟩ := pH2507
                  subst hvH2507
                  have f2520 : ∀ j : Nat, bt j = (fI H2507 tq j).toInt := fun j => (f2494 j).trans (congrArg Int32.toInt (fI_kept (x_lt hTH2475 kH2507 gtq (by decide))).symm)
                  have m2521 := (m2482).trans (MF.r mf2515 (k := 32) (by decide) (by decide)).symm
                  have m2522 := (m2483).trans (MF.r mf2515 (k := 33) (by decide) (by decide)).symm
                  have m2523 := (m2484).trans (MF.r mf2515 (k := 17) (by decide) (by decide)).symm
                  have m2524 := (m2498).trans (MF.i mf2515 (k := 18) (by decide) (by decide)).symm
                  have m2525 := (m2499).trans (MF.i mf2515 (k := 34) (by decide) (by decide)).symm
                  have m2526 := (ex2477).trans (MF.i mf2515 (k := 19) (by decide) (by decide)).symm
                  have m2527 := (ex2478).trans (MF.i mf2515 (k := 20) (by decide) (by decide)).symm
                  have m2528 := (ex2479).trans (MF.i mf2515 (k := 21) (by decide) (by decide)).symm
                  have m2529 := (ex2480).trans (MF.i mf2515 (k := 22) (by decide) (by decide)).symm
                  have mf2530 : MF K s.heap H2507 a0 [19, 20, 21, 22, 35, 39, 40] := MF.trans mf2500 mf2515 (by decide)
                  have bx2508 := ty_fi (x := x2508) (k := 35) ex2508 hTH2507 ga0 rg_112 rfl
                  have cem2519 := i_cl (x := x2481) (by omega)
                  have ce_mn := i_cl (x := mn) (by omega)
                  have b2531 : ∀ j : Nat, j < 3000 + mn.toNatClampNeg → fI H2507 oq j = fI s.heap oq j ∧ fI H2507 aq j = fI s.heap aq j := fun j hj => ⟨(m2518 j (by omega)).trans (b2501 j hj).1, (m2519 j (by omega)).trans (b2501 j hj).2⟩
                  have ce_mn := i_cl (x := mn) (by omega)
                  have ce_x2152 := i_cl (x := x2152) (by omega)
                  have b2532 : WF (fun k => fI H2507 oq k) (fun k => fI H2507 aq k) (3000 + mn.toNatClampNeg) (3000 + x2152.toNatClampNeg) 0 1 := WF.keep b2502 (fun j hj => m2518 j (by omega)) (fun j hj => m2519 j (by omega))
                  have ce_x2152 := i_cl (x := x2152) (by omega)
                  have b2533 : WF (fun k => fI H2507 oq k) (fun k => fI H2507 aq k) (3000 + x2152.toNatClampNeg) (3000 + x2481.toNatClampNeg) 0 1 := WF.keep wu0 (fun j hj => m2518 j (by omega)) (fun j hj => m2519 j (by omega))
                  refine W.eq (g2 := F0 m 98 ls2444 []) rfl ?_
                  have ho := congrArg Int32.toInt m2516
                  have cb_mn := i_cl (x := mn) (by omega)
                  have cb_x2152 := i_cl (x := x2152) (by omega)
                  have cb_x2481 := i_cl (x := x2481) (by omega)
                  have wn : WF (fun k => fI H2507 oq k) (fun k => fI H2507 aq k) (3000 + mn.toNatClampNeg) (3000 + x2481.toNatClampNeg + 1) 0 1 := WF.bin b2532 b2533 (by omega) (by omega) (by show 2 ≤ (fI _ oq _).toInt ∧ (fI _ oq _).toInt ≤ 11 ∧ (fI _ oq _).toInt ≠ 9; omega) (Or.inl (by show (fI _ oq _).toInt ≠ 5; omega))
                  refine lv_goto (tgt := 10) hx hb dX10_readProduct_98 (by decide) ?_
                  have cl_mn := i_cl (x := mn) (by omega)
                  have cl_mn := i_cl (x := mn) (by omega)
                  have cl_x2481 := i_cl (x := x2481) (by omega)
                  have cl_x2508 := i_cl (x := x2508) (by omega)
                  obtain ⟨cj2534, ho2536, cu2535⟩ := RC.yes m2493 (by omega)
                  have cn_fr := i_cl (x := fr) (by omega)
                  have ub_ := hcu10.2.2.2
                  have k42_ : kK bt tp.toNatClampNeg cj = 42 := (TV.sg (c := 42) hcu10.2.2.1 (by decide)).mp ⟨by omega, by omega⟩
                  exact ih10 cj2534 ls2444 H2507 locsH2507 (x2477) (x2478) (x2479) (x2480) (x2508) (lv_sub hl2445 [1] rfl) hTH2507 hSH2507 (by have := i_rng x2477; omega) (by have := i_rng x2478; omega) (by have := i_rng x2508; omega) m2526 m2527 m2528 m2529 ex2508 m2509 m2510 m2523 m2524 m2525 b2531 (WF.cast wn (by omega) (by omega)) mf2530 g2511 g2512 g2513 g2514 f2520 (by omega) (by omega) cu2535 (hsp10.trans (tb_t1 (by omega) k42_ ho2536))
              · have k2504 := i_eq c2503
                refine lv_iconst (v := (-1)) hx hb dX10_readProduct_82 (by decide) ?_
                have cn_fr := i_cl (x := fr) (by omega)
                have ub_ := hcu10.2.2.2
                have k42_ : kK bt tp.toNatClampNeg cj = 42 := (TV.sg (c := 42) hcu10.2.2.1 (by decide)).mp ⟨by omega, by omega⟩
                exact x_iret C hQ dX10_readProduct_83 hSH2475 (by decide) (by decide) (⟨(-1), x2477, x2478, x2479, x2480, x2481, rfl, by decide, ex2477, ex2478, ex2479, ex2480, ex2481, by omega, m2482, m2483, m2484, g2485, g2486, g2487, g2488, mf2500, b2501, Or.inl (by omega), Or.inl ⟨hsp10.trans (tb_t0 (by omega) k42_ (RC.no m2493 (by omega))), by omega⟩, hTH2475⟩)
            · have k2474 := i_eq c2473
              exfalso
              omega
          · have k2472 := i_eq c2471
            refine lv_aload_n hx hb dX10_readProduct_43 rfl (lv_at hl2445 1 rfl) ?_
            refine x_gi C hTH2446 (ci := 10) (k := 21) rfl inX10 (by decide) wF_X10_202 ga0 rg_112 rfl dX10_readProduct_44 (fun x2537 ex2537 bx2537 => ?_)
            have ux2537 : x2449 = x2537 := (ex2449).trans ex2537.symm
            subst ux2537
            refine lv_iconst (v := 3) hx hb dX10_readProduct_47 (by decide) ?_
            refine lv_icmp_eq (tgt := 57) hx hb dX10_readProduct_48 (by decide) (fun c2538 => ?_) (fun c2538 => ?_)
            · have k2539 := i_eq c2538
              refine lv_iload_n hx hb dX10_readProduct_57 rfl (lv_at hl2445 0 rfl) ?_
              refine lv_if_ne (tgt := 74) hx hb dX10_readProduct_58 (by decide) (fun c2540 => ?_) (fun c2540 => ?_)
              · have k2541 := i_ne c2540
                exfalso
                omega
              · have k2541 := i_eq c2540
                refine lv_aload_n hx hb dX10_readProduct_61 rfl (lv_at hl2445 1 rfl) ?_
                refine x_gi C hTH2446 (ci := 10) (k := 22) rfl inX10 (by decide) wF_X10_205 ga0 rg_112 rfl dX10_readProduct_62 (fun x2542 ex2542 bx2542 => ?_)
                have ux2542 : x2450 = x2542 := (ex2450).trans ex2542.symm
                subst ux2542
                refine lv_if_ne (tgt := 74) hx hb dX10_readProduct_65 (by decide) (fun c2543 => ?_) (fun c2543 => ?_)
                · have k2544 := i_ne c2543
                  refine lv_aload_n hx hb dX10_readProduct_74 rfl (lv_at hl2445 1 rfl) ?_
                  refine x_V (As := []) (rest := []) C (a_X10_readUnit_e l K G H2446 (x2447) (x2448) (x2449) (x2450) (x2152) (tp) (jb) ((cj + 1)) bt hTH2446 ga0 goq m2464 gaq m2465 gtq m2451 ex2447 ex2448 ex2449 ex2450 m2463 m2467 m2468 g2452 g2453 g2454 g2455 (by omega) (by omega) (cu2470) (hy1) f2462) yo_X10_readUnit wM_X10_245 ⟨⟨by decide, by decide⟩, by decide, by decide⟩ (x_rv C hTH2446 (ci := 10) rfl ga0 rg_112) rfl hl2445.1 rfl (Nat.le_of_ble_eq_true rfl) dX10_readProduct_75 hSH2446 (AE_sub (fun _ _ => rfl) (by decide) hSH2446.1) (fun vH2545 H2545 locsH2545 pH2545 zH2545 kH2545 hSH2545 => ?_)
                  obtain ⟨x2546, x2547, x2548, x2549, x2550, x2551, hvH2545, bx2546, ex2547, ex2548, ex2549, ex2550, ex2551, hrH2545, m2552, m2553, m2554, g2555, g2556, g2557, g2558, mf2559, m2560, m2561, m2562, m2563, hTH2545⟩ := pH2545
                  subst hvH2545
                  have f2564 : ∀ j : Nat, bt j = (fI H2545 tq j).toInt := fun j => (f2462 j).trans (congrArg Int32.toInt (fI_kept (x_lt hTH2446 kH2545 gtq (by decide))).symm)
                  have m2565 := (m2464).trans (MF.r mf2559 (k := 32) (by decide) (by decide)).symm
                  have m2566 := (m2465).trans (MF.r mf2559 (k := 33) (by decide) (by decide)).symm
                  have m2567 := (m2451).trans (MF.r mf2559 (k := 17) (by decide) (by decide)).symm
                  have m2568 := (m2467).trans (MF.i mf2559 (k := 18) (by decide) (by decide)).symm
                  have m2569 := (m2468).trans (MF.i mf2559 (k := 34) (by decide) (by decide)).symm
                  have mf2570 : MF K s.heap H2545 a0 [19, 20, 21, 22, 35, 39, 40] := MF.trans mf2469 mf2559 (by decide)
                  have bx2547 := ty_fi (x := x2547) (k := 19) ex2547 hTH2545 ga0 rg_112 rfl
                  have bx2548 := ty_fi (x := x2548) (k := 20) ex2548 hTH2545 ga0 rg_112 rfl
                  have bx2549 := ty_fi (x := x2549) (k := 21) ex2549 hTH2545 ga0 rg_112 rfl
                  have bx2550 := ty_fi (x := x2550) (k := 22) ex2550 hTH2545 ga0 rg_112 rfl
                  have bx2551 := ty_fi (x := x2551) (k := 35) ex2551 hTH2545 ga0 rg_112 rfl
                  have csm2560 := i_cl (x := x2152) (by omega)
                  have cs_mn := i_cl (x := mn) (by omega)
                  have b2571 : ∀ j : Nat, j < 3000 + mn.toNatClampNeg → fI H2545 oq j = fI s.heap oq j ∧ fI H2545 aq j = fI s.heap aq j := fun j hj => ⟨(m2560 j (by omega)).1.trans (b2460 j hj).1, (m2560 j (by omega)).2.trans (b2460 j hj).2⟩
                  have cs_mn := i_cl (x := mn) (by omega)
                  have b2572 : WF (fun k => fI H2545 oq k) (fun k => fI H2545 aq k) (3000 + mn.toNatClampNeg) (3000 + x2152.toNatClampNeg) 0 1 := WF.keep b2461 (fun j hj => (m2560 j (by omega)).1) (fun j hj => (m2560 j (by omega)).2)
                  refine W.eq (g2 := F0 m 78 ls2444 [.int x2546]) rfl ?_
                  refine lv_iconst (v := (-1)) hx hb dX10_readProduct_78 (by decide) ?_
                  refine lv_icmp_ne (tgt := 84) hx hb dX10_readProduct_79 (by decide) (fun c2573 => ?_) (fun c2573 => ?_)
                  · have k2574 := i_ne c2573
                    have wu0 : WF (fun k => fI H2545 oq k) (fun k => fI H2545 aq k) (3000 + x2152.toNatClampNeg) (3000 + x2551.toNatClampNeg) 0 1 := by
                      rcases m2561 with h | h
                      · exfalso; omega
                      · exact h
                    have ev0 : (fI H2545 oq (3000 + x2152.toNatClampNeg)).toInt = 0 ∧ (fI H2545 aq (3000 + x2152.toNatClampNeg)).toInt = x2450.toInt := by
                      rcases m2562 with h | h | h
                      · exfalso; omega
                      · exfalso; omega
                      · exact h
                    refine lv_aload_n hx hb dX10_readProduct_84 rfl (lv_at hl2445 1 rfl) ?_
                    refine lv_iload_n hx hb dX10_readProduct_85 rfl (lv_at hl2445 0 rfl) ?_
                    refine lv_if_eq (tgt := 93) hx hb dX10_readProduct_86 (by decide) (fun c2575 => ?_) (fun c2575 => ?_)
                    · have k2576 := i_eq c2575
                      refine lv_iconst (v := 5) hx hb dX10_readProduct_93 (by decide) ?_
                      refine lv_iconst (v := 0) hx hb dX10_readProduct_94 (by decide) ?_
                      refine x_V (As := [.int 5, .int 0]) (rest := []) C (a_X10_emits l K G H2545 (5) (0) (x2551) hTH2545 ga0 goq m2552 gaq m2553 ex2551 g2555 g2556 g2557 g2558 (by omega)) yo_X10_emits wM_X10_238 ⟨⟨by decide, by decide⟩, by decide, by decide⟩ (x_rv C hTH2545 (ci := 10) rfl ga0 rg_112) rfl hl2445.1 rfl (Nat.le_of_ble_eq_true rfl) dX10_readProduct_95 hSH2545 (AE_sub (fun _ _ => rfl) (by decide) hSH2545.1) (fun vH2577 H2577 locsH2577 pH2577 zH2577 kH2577 hSH2577 => ?_)
                      obtain ⟨x2578, hvH2577, ex2578, hrH2577, m2579, m2580, g2581, g2582, g2583, g2584, mf2585, m2586, m2587, m2588, m2589, hTH2577⟩ := pH2577
                      subst hvH2577
                      have f2590 : ∀ j : Nat, bt j = (fI H2577 tq j).toInt := fun j => (f2564 j).trans (congrArg Int32.toInt (fI_kept (x_lt hTH2545 kH2577 gtq (by decide))).symm)
                      have m2591 := (m2552).trans (MF.r mf2585 (k := 32) (by decide) (by decide)).symm
                      have m2592 := (m2553).trans (MF.r mf2585 (k := 33) (by decide) (by decide)).symm
                      have m2593 := (m2554).trans (MF.r mf2585 (k := 17) (by decide) (by decide)).symm
                      have m2594 := (m2568).trans (MF.i mf2585 (k := 18) (by decide) (by decide)).symm
                      have m2595 := (m2569).trans (MF.i mf2585 (k := 34) (by decide) (by decide)).symm
                      have m2596 := (ex2547).trans (MF.i mf2585 (k := 19) (by decide) (by decide)).symm
                      have m2597 := (ex2548).trans (MF.i mf2585 (k := 20) (by decide) (by decide)).symm
                      have m2598 := (ex2549).trans (MF.i mf2585 (k := 21) (by decide) (by decide)).symm
                      have m2599 := (ex2550).trans (MF.i mf2585 (k := 22) (by decide) (by decide)).symm
                      have mf2600 : MF K s.heap H2577 a0 [19, 20, 21, 22, 35, 39, 40] := MF.trans mf2570 mf2585 (by decide)
                      have bx2578 := ty_fi (x := x2578) (k := 35) ex2578 hTH2577 ga0 rg_112 rfl
                      have cem2589 := i_cl (x := x2551) (by omega)
                      have ce_mn := i_cl (x := mn) (by omega)
                      have b2601 : ∀ j : Nat, j < 3000 + mn.toNatClampNeg → fI H2577 oq j = fI s.heap oq j ∧ fI H2577 aq j = fI s.heap aq j := fun j hj => ⟨(m2588 j (by omega)).trans (b2571 j hj).1, (m2589 j (by omega)).trans (b2571 j hj).2⟩
                      have ce_mn := i_cl (x := mn) (by omega)
                      have ce_x2152 := i_cl (x := x2152) (by omega)
                      have b2602 : WF (fun k => fI H2577 oq k) (fun k => fI H2577 aq k) (3000 + mn.toNatClampNeg) (3000 + x2152.toNatClampNeg) 0 1 := WF.keep b2572 (fun j hj => m2588 j (by omega)) (fun j hj => m2589 j (by omega))
                      have ce_x2152 := i_cl (x := x2152) (by omega)
                      have b2603 : WF (fun k => fI H2577 oq k) (fun k => fI H2577 aq k) (3000 + x2152.toNatClampNeg) (3000 + x2551.toNatClampNeg) 0 1 := WF.keep wu0 (fun j hj => m2588 j (by omega)) (fun j hj => m2589 j (by omega))
                      have ce_x2152 := i_cl (x := x2152) (by omega)
                      have b2604 : (fI H2577 oq (3000 + x2152.toNatClampNeg)).toInt = 0 ∧ (fI H2577 aq (3000 + x2152.toNatClampNeg)).toInt = x2450.toInt := ⟨(congrArg Int32.toInt (m2588 _ (by omega))).trans ev0.1, (congrArg Int32.toInt (m2589 _ (by omega))).trans ev0.2⟩
                      refine W.eq (g2 := F0 m 98 ls2444 []) rfl ?_
                      have ho := congrArg Int32.toInt m2586
                      have cb_mn := i_cl (x := mn) (by omega)
                      have cb_x2152 := i_cl (x := x2152) (by omega)
                      have cb_x2551 := i_cl (x := x2551) (by omega)
                      have ev1 : (fI H2577 oq (3000 + x2152.toNatClampNeg)).toInt = 0 ∧ (fI H2577 aq (3000 + x2152.toNatClampNeg)).toInt ≠ 0 := ⟨b2604.1, by rw [b2604.2]; omega⟩
                      have wn : WF (fun k => fI H2577 oq k) (fun k => fI H2577 aq k) (3000 + mn.toNatClampNeg) (3000 + x2551.toNatClampNeg + 1) 0 1 := WF.bin b2602 b2603 (by omega) (by omega) (by show 2 ≤ (fI _ oq _).toInt ∧ (fI _ oq _).toInt ≤ 11 ∧ (fI _ oq _).toInt ≠ 9; omega) (Or.inr ⟨by omega, ev1.1, ev1.2⟩)
                      refine lv_goto (tgt := 10) hx hb dX10_readProduct_98 (by decide) ?_
                      have cl_mn := i_cl (x := mn) (by omega)
                      have cl_mn := i_cl (x := mn) (by omega)
                      have cl_x2551 := i_cl (x := x2551) (by omega)
                      have cl_x2578 := i_cl (x := x2578) (by omega)
                      obtain ⟨cj2605, ho2607, cu2606⟩ := RC.yes m2563 (by omega)
                      have cn_fr := i_cl (x := fr) (by omega)
                      have ub_ := hcu10.2.2.2
                      have k47_ : kK bt tp.toNatClampNeg cj = 47 := (TV.sg (c := 47) hcu10.2.2.1 (by decide)).mp ⟨by omega, by omega⟩
                      have n2_ : kK bt tp.toNatClampNeg (cj + 1) = 24 := (TV.nm cu2470.2.2.1).mp (by omega)
                      have v2_ := TV.nv cu2470.2.2.1 (by omega)
                      have e2_ := un_at ho2607
                      exact ih10 cj2605 ls2444 H2577 locsH2577 (x2547) (x2548) (x2549) (x2550) (x2578) (lv_sub hl2445 [1] rfl) hTH2577 hSH2577 (by have := i_rng x2547; omega) (by have := i_rng x2548; omega) (by have := i_rng x2578; omega) m2596 m2597 m2598 m2599 ex2578 m2579 m2580 m2593 m2594 m2595 b2601 (WF.cast wn (by omega) (by omega)) mf2600 g2581 g2582 g2583 g2584 f2590 (by omega) (by omega) cu2606 (hsp10.trans ((tb_d1 (by omega) k47_ n2_ (fun z => by rw [z] at v2_; omega)).trans (by rw [e2_])))
                    · have k2576 := i_ne c2575
                      exfalso
                      omega
                  · have k2574 := i_eq c2573
                    refine lv_iconst (v := (-1)) hx hb dX10_readProduct_82 (by decide) ?_
                    have cn_fr := i_cl (x := fr) (by omega)
                    have ub_ := hcu10.2.2.2
                    exact x_iret C hQ dX10_readProduct_83 hSH2545 (by decide) (by decide) (⟨(-1), x2547, x2548, x2549, x2550, x2551, rfl, by decide, ex2547, ex2548, ex2549, ex2550, ex2551, by omega, m2552, m2553, m2554, g2555, g2556, g2557, g2558, mf2570, b2571, Or.inl (by omega), (by exfalso; have z_ := (RC.no m2563 (by omega)).symm.trans (un_nm ((TV.nm cu2470.2.2.1).mp (by omega))); cases z_), hTH2545⟩)
                · have k2544 := i_eq c2543
                  refine lv_aload_n hx hb dX10_readProduct_68 rfl (lv_at hl2445 1 rfl) ?_
                  refine lv_iconst (v := 2) hx hb dX10_readProduct_69 (by decide) ?_
                  refine x_V (As := [.int 2]) (rest := []) C (a_X10_fails l K G H2446 (2) hTH2446 ga0 g2452 g2453 g2454 g2455) yo_X10_fails wM_X10_235 ⟨⟨by decide, by decide⟩, by decide, by decide⟩ (x_rv C hTH2446 (ci := 10) rfl ga0 rg_112) rfl hl2445.1 rfl (Nat.le_of_ble_eq_true rfl) dX10_readProduct_70 hSH2446 (AE_sub (fun _ _ => rfl) (by decide) hSH2446.1) (fun vH2608 H2608 locsH2608 pH2608 zH2608 kH2608 hSH2608 => ?_)
                  obtain ⟨x2609, hvH2608, bx2609, g2610, g2611, g2612, g2613, mf2614, hTH2608⟩ := pH2608
                  subst hvH2608
                  have b2615 : ∀ j : Nat, j < 3000 + mn.toNatClampNeg → fI H2608 oq j = fI s.heap oq j ∧ fI H2608 aq j = fI s.heap aq j := fun j hj => ⟨(fI_kept (x_lt hTH2446 kH2608 goq (by decide))).trans (b2460 j hj).1, (fI_kept (x_lt hTH2446 kH2608 gaq (by decide))).trans (b2460 j hj).2⟩
                  have b2616 : WF (fun k => fI H2608 oq k) (fun k => fI H2608 aq k) (3000 + mn.toNatClampNeg) (3000 + x2152.toNatClampNeg) 0 1 := WF.congr (fun j => fI_kept (x_lt hTH2446 kH2608 goq (by decide))) (fun j => fI_kept (x_lt hTH2446 kH2608 gaq (by decide))) b2461
                  have f2617 : ∀ j : Nat, bt j = (fI H2608 tq j).toInt := fun j => (f2462 j).trans (congrArg Int32.toInt (fI_kept (x_lt hTH2446 kH2608 gtq (by decide))).symm)
                  have m2618 := (m2463).trans (MF.i mf2614 (k := 35) (by decide) (by decide)).symm
                  have m2619 := (m2464).trans (MF.r mf2614 (k := 32) (by decide) (by decide)).symm
                  have m2620 := (m2465).trans (MF.r mf2614 (k := 33) (by decide) (by decide)).symm
                  have m2621 := (m2451).trans (MF.r mf2614 (k := 17) (by decide) (by decide)).symm
                  have m2622 := (m2467).trans (MF.i mf2614 (k := 18) (by decide) (by decide)).symm
                  have m2623 := (m2468).trans (MF.i mf2614 (k := 34) (by decide) (by decide)).symm
                  have m2624 := (ex2447).trans (MF.i mf2614 (k := 19) (by decide) (by decide)).symm
                  have m2625 := (ex2448).trans (MF.i mf2614 (k := 20) (by decide) (by decide)).symm
                  have m2626 := (ex2449).trans (MF.i mf2614 (k := 21) (by decide) (by decide)).symm
                  have m2627 := (ex2450).trans (MF.i mf2614 (k := 22) (by decide) (by decide)).symm
                  have mf2628 : MF K s.heap H2608 a0 [19, 20, 21, 22, 35, 39, 40] := MF.trans mf2469 mf2614 (by decide)
                  refine W.eq (g2 := F0 m 73 ls2444 [.int x2609]) rfl ?_
                  have cn_fr := i_cl (x := fr) (by omega)
                  have ub_ := hcu10.2.2.2
                  have k47_ : kK bt tp.toNatClampNeg cj = 47 := (TV.sg (c := 47) hcu10.2.2.1 (by decide)).mp ⟨by omega, by omega⟩
                  have v2_ := TV.nv cu2470.2.2.1 (by omega)
                  exact x_iret C hQ dX10_readProduct_73 hSH2608 (by decide) (by decide) (⟨x2609, x2447, x2448, x2449, x2450, x2152, rfl, by omega, m2624, m2625, m2626, m2627, m2618, by omega, m2619, m2620, m2621, g2610, g2611, g2612, g2613, mf2628, b2615, Or.inl (by omega), Or.inl ⟨hsp10.trans (tb_d0 (by omega) k47_ (Or.inr ⟨(TV.nm cu2470.2.2.1).mp (by omega), by omega⟩)), by omega⟩, hTH2608⟩)
            · have k2539 := i_ne c2538
              refine lv_aload_n hx hb dX10_readProduct_51 rfl (lv_at hl2445 1 rfl) ?_
              refine lv_iconst (v := 1) hx hb dX10_readProduct_52 (by decide) ?_
              refine x_V (As := [.int 1]) (rest := []) C (a_X10_fails l K G H2446 (1) hTH2446 ga0 g2452 g2453 g2454 g2455) yo_X10_fails wM_X10_235 ⟨⟨by decide, by decide⟩, by decide, by decide⟩ (x_rv C hTH2446 (ci := 10) rfl ga0 rg_112) rfl hl2445.1 rfl (Nat.le_of_ble_eq_true rfl) dX10_readProduct_53 hSH2446 (AE_sub (fun _ _ => rfl) (by decide) hSH2446.1) (fun vH2629 H2629 locsH2629 pH2629 zH2629 kH2629 hSH2629 => ?_)
              obtain ⟨x2630, hvH2629, bx2630, g2631, g2632, g2633, g2634, mf2635, hTH2629⟩ := pH2629
              subst hvH2629
              have b2636 : ∀ j : Nat, j < 3000 + mn.toNatClampNeg → fI H2629 oq j = fI s.heap oq j ∧ fI H2629 aq j = fI s.heap aq j := fun j hj => ⟨(fI_kept (x_lt hTH2446 kH2629 goq (by decide))).trans (b2460 j hj).1, (fI_kept (x_lt hTH2446 kH2629 gaq (by decide))).trans (b2460 j hj).2⟩
              have b2637 : WF (fun k => fI H2629 oq k) (fun k => fI H2629 aq k) (3000 + mn.toNatClampNeg) (3000 + x2152.toNatClampNeg) 0 1 := WF.congr (fun j => fI_kept (x_lt hTH2446 kH2629 goq (by decide))) (fun j => fI_kept (x_lt hTH2446 kH2629 gaq (by decide))) b2461
              have f2638 : ∀ j : Nat, bt j = (fI H2629 tq j).toInt := fun j => (f2462 j).trans (congrArg Int32.toInt (fI_kept (x_lt hTH2446 kH2629 gtq (by decide))).symm)
              have m2639 := (m2463).trans (MF.i mf2635 (k := 35) (by decide) (by decide)).symm
              have m2640 := (m2464).trans (MF.r mf2635 (k := 32) (by decide) (by decide)).symm
              have m2641 := (m2465).trans (MF.r mf2635 (k := 33) (by decide) (by decide)).symm
              have m2642 := (m2451).trans (MF.r mf2635 (k := 17) (by decide) (by decide)).symm
              have m2643 := (m2467).trans (MF.i mf2635 (k := 18) (by decide) (by decide)).symm
              have m2644 := (m2468).trans (MF.i mf2635 (k := 34) (by decide) (by decide)).symm
              have m2645 := (ex2447).trans (MF.i mf2635 (k := 19) (by decide) (by decide)).symm
              have m2646 := (ex2448).trans (MF.i mf2635 (k := 20) (by decide) (by decide)).symm
              have m2647 := (ex2449).trans (MF.i mf2635 (k := 21) (by decide) (by decide)).symm
              have m2648 := (ex2450).trans (MF.i mf2635 (k := 22) (by decide) (by decide)).symm
              have mf2649 : MF K s.heap H2629 a0 [19, 20, 21, 22, 35, 39, 40] := MF.trans mf2469 mf2635 (by decide)
              refine W.eq (g2 := F0 m 56 ls2444 [.int x2630]) rfl ?_
              have cn_fr := i_cl (x := fr) (by omega)
              have ub_ := hcu10.2.2.2
              have k47_ : kK bt tp.toNatClampNeg cj = 47 := (TV.sg (c := 47) hcu10.2.2.1 (by decide)).mp ⟨by omega, by omega⟩
              exact x_iret C hQ dX10_readProduct_56 hSH2629 (by decide) (by decide) (⟨x2630, x2447, x2448, x2449, x2450, x2152, rfl, by omega, m2645, m2646, m2647, m2648, m2639, by omega, m2640, m2641, m2642, g2631, g2632, g2633, g2634, mf2649, b2636, Or.inl (by omega), Or.inl ⟨hsp10.trans (tb_d0 (by omega) k47_ (Or.inl (fun e => by have z_ := (TV.nm cu2470.2.2.1).mpr e; omega))), by omega⟩, hTH2629⟩)
  have pf00 : ∀ j : Nat, j < 3000 + mn.toNatClampNeg → fI s.heap oq j = fI s.heap oq j ∧ fI s.heap aq j = fI s.heap aq j := fun _ _ => ⟨rfl, rfl⟩
  have hmn := i_cl (x := mn) (by omega)
  refine lv_aload_n hx hb dX10_readProduct_0 rfl (lv_at hl 0 rfl) ?_
  refine x_V (As := []) (rest := []) C (a_X10_readUnit_e l K G s.heap (sp) (fr) (tk) (vl) (mn) (tp) (jb) (ci) bt hT ga0 goq eoq gaq eaq gtq etq esp efr etk evl emn etp ejb hg_CG hg_TU hg_WD hg_IM (by omega) (by omega) (hy0) (hy1) f0_bt) yo_X10_readUnit wM_X10_245 ⟨⟨by decide, by decide⟩, by decide, by decide⟩ (x_rv C hT (ci := 10) rfl ga0 rg_112) rfl hl.1 rfl (Nat.le_of_ble_eq_true rfl) dX10_readProduct_1 hS (AE_sub (fun _ _ => rfl) (by decide) hS.1) (fun vH2650 H2650 locsH2650 pH2650 zH2650 kH2650 hSH2650 => ?_)
  obtain ⟨x2651, x2652, x2653, x2654, x2655, x2656, hvH2650, bx2651, ex2652, ex2653, ex2654, ex2655, ex2656, hrH2650, m2657, m2658, m2659, g2660, g2661, g2662, g2663, mf2664, m2665, m2666, m2667, m2668, hTH2650⟩ := pH2650
  subst hvH2650
  have f2669 : ∀ j : Nat, bt j = (fI H2650 tq j).toInt := fun j => (f0_bt j).trans (congrArg Int32.toInt (fI_kept (x_lt hT kH2650 gtq (by decide))).symm)
  have m2670 := (eoq).trans (MF.r mf2664 (k := 32) (by decide) (by decide)).symm
  have m2671 := (eaq).trans (MF.r mf2664 (k := 33) (by decide) (by decide)).symm
  have m2672 := (etq).trans (MF.r mf2664 (k := 17) (by decide) (by decide)).symm
  have m2673 := (etp).trans (MF.i mf2664 (k := 18) (by decide) (by decide)).symm
  have m2674 := (ejb).trans (MF.i mf2664 (k := 34) (by decide) (by decide)).symm
  have mf2675 : MF K s.heap H2650 a0 [19, 20, 21, 22, 35, 39, 40] := MF.trans mf0 mf2664 (by decide)
  have bx2652 := ty_fi (x := x2652) (k := 19) ex2652 hTH2650 ga0 rg_112 rfl
  have bx2653 := ty_fi (x := x2653) (k := 20) ex2653 hTH2650 ga0 rg_112 rfl
  have bx2654 := ty_fi (x := x2654) (k := 21) ex2654 hTH2650 ga0 rg_112 rfl
  have bx2655 := ty_fi (x := x2655) (k := 22) ex2655 hTH2650 ga0 rg_112 rfl
  have bx2656 := ty_fi (x := x2656) (k := 35) ex2656 hTH2650 ga0 rg_112 rfl
  have csm2665 := i_cl (x := mn) (by omega)
  have b2676 : ∀ j : Nat, j < 3000 + mn.toNatClampNeg → fI H2650 oq j = fI s.heap oq j ∧ fI H2650 aq j = fI s.heap aq j := fun j hj => ⟨(m2665 j (by omega)).1.trans (pf00 j hj).1, (m2665 j (by omega)).2.trans (pf00 j hj).2⟩
  refine W.eq (g2 := F0 m 4 ls [.int x2651]) rfl ?_
  refine lv_iconst (v := (-1)) hx hb dX10_readProduct_4 (by decide) ?_
  refine lv_icmp_ne (tgt := 10) hx hb dX10_readProduct_5 (by decide) (fun c2677 => ?_) (fun c2677 => ?_)
  · have k2678 := i_ne c2677
    have wf0 : WF (fun k => fI H2650 oq k) (fun k => fI H2650 aq k) (3000 + mn.toNatClampNeg) (3000 + x2656.toNatClampNeg) 0 1 := by
      rcases m2666 with h | h
      · exfalso; omega
      · exact h
    have cl_mn := i_cl (x := mn) (by omega)
    have cl_mn := i_cl (x := mn) (by omega)
    have cl_x2656 := i_cl (x := x2656) (by omega)
    obtain ⟨cj2679, ho2681, cu2680⟩ := RC.yes m2668 (by omega)
    have cn_fr := i_cl (x := fr) (by omega)
    have ub_ := hy0.2.2.2
    exact J10 ((500 - x2653.toInt).toNat + 1) cj2679 ls H2650 locsH2650 (x2652) (x2653) (x2654) (x2655) (x2656) (lv_sub hl [0] rfl) hTH2650 hSH2650 (by have := i_rng x2652; omega) (by have := i_rng x2653; omega) (by have := i_rng x2656; omega) ex2652 ex2653 ex2654 ex2655 ex2656 m2657 m2658 m2659 m2673 m2674 b2676 (WF.cast wf0 (by omega) (by omega)) mf2675 g2660 g2661 g2662 g2663 f2669 (by omega) (by omega) cu2680 (tm_un1 (by omega) ho2681)
  · have k2678 := i_eq c2677
    refine lv_iconst (v := (-1)) hx hb dX10_readProduct_8 (by decide) ?_
    have cn_fr := i_cl (x := fr) (by omega)
    have ub_ := hy0.2.2.2
    exact x_iret C hQ dX10_readProduct_9 hSH2650 (by decide) (by decide) (⟨(-1), x2652, x2653, x2654, x2655, x2656, rfl, by decide, ex2652, ex2653, ex2654, ex2655, ex2656, by omega, m2657, m2658, m2659, g2660, g2661, g2662, g2663, mf2675, b2676, Or.inl (by omega), Or.inl ⟨tm_un0 (by omega) (RC.no m2668 (by omega)), by omega⟩, hTH2650⟩)
