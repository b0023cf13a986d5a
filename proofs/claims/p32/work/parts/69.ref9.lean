/-- what waits: 9 not, 10 and, 11 or, 12 a bracket -/
def PD (f : Nat → Int32) (n : Nat) : Prop := ∀ j : Nat, j < n → ((f j).toInt = 9 ∨ (f j).toInt = 10 ∨ (f j).toInt = 11 ∨ (f j).toInt = 12) ∧ ((f j).toInt ≠ 10 ∨ j = 0 ∨ (f (j - 1)).toInt = 11 ∨ (f (j - 1)).toInt = 12) ∧ ((f j).toInt ≠ 11 ∨ j = 0 ∨ (f (j - 1)).toInt = 12)
/-- how many are of a kind: p 9 and 12 (open), 10 and 11 (two-sided), 12 (brackets) -/
def cO (f : Nat → Int32) : Nat → Nat
  | 0 => 0
  | n + 1 => cO f n + (if (f n).toInt = 9 ∨ (f n).toInt = 12 then 1 else 0)
def cB (f : Nat → Int32) : Nat → Nat
  | 0 => 0
  | n + 1 => cB f n + (if (f n).toInt = 10 ∨ (f n).toInt = 11 then 1 else 0)
def cK (f : Nat → Int32) : Nat → Nat
  | 0 => 0
  | n + 1 => cK f n + (if (f n).toInt = 12 then 1 else 0)
theorem PD.pre {f : Nat → Int32} {n m : Nat} (h : PD f n) (hm : m ≤ n) : PD f m := fun j hj => h j (by omega)
theorem PD.nil {f : Nat → Int32} : PD f 0 := fun j hj => by omega
theorem PD.congr {f f1 : Nat → Int32} {n : Nat} (e : ∀ j, j < n → f1 j = f j) (h : PD f n) : PD f1 n := by
  intro j hj
  rw [e j hj, e (j - 1) (by omega)]
  exact h j hj
theorem cO_congr {f f1 : Nat → Int32} : ∀ n : Nat, (∀ j, j < n → f1 j = f j) → cO f1 n = cO f n := by
  intro n
  induction n with
  | zero => intro _; rfl
  | succ n ih => intro e; rw [cO, cO, ih (fun j hj => e j (by omega)), e n (by omega)]
theorem cB_congr {f f1 : Nat → Int32} : ∀ n : Nat, (∀ j, j < n → f1 j = f j) → cB f1 n = cB f n := by
  intro n
  induction n with
  | zero => intro _; rfl
  | succ n ih => intro e; rw [cB, cB, ih (fun j hj => e j (by omega)), e n (by omega)]
theorem cK_congr {f f1 : Nat → Int32} : ∀ n : Nat, (∀ j, j < n → f1 j = f j) → cK f1 n = cK f n := by
  intro n
  induction n with
  | zero => intro _; rfl
  | succ n ih => intro e; rw [cK, cK, ih (fun j hj => e j (by omega)), e n (by omega)]
/-- one more, by its kind -/
theorem c_step {f : Nat → Int32} {n m : Nat} (hm : m = n + 1) :
    ((f n).toInt = 9 → cO f m = cO f n + 1 ∧ cB f m = cB f n ∧ cK f m = cK f n) ∧ ((f n).toInt = 10 ∨ (f n).toInt = 11 → cO f m = cO f n ∧ cB f m = cB f n + 1 ∧ cK f m = cK f n) ∧ ((f n).toInt = 12 → cO f m = cO f n + 1 ∧ cB f m = cB f n ∧ cK f m = cK f n + 1) := by
  subst hm
  refine ⟨fun h => ?_, fun h => ?_, fun h => ?_⟩
  · rw [cO, cB, cK, h]; simp
  · rcases h with h | h
    · rw [cO, cB, cK, h]; simp
    · rw [cO, cB, cK, h]; simp
  · rw [cO, cB, cK, h]; simp
theorem PD.le {f : Nat → Int32} : ∀ n : Nat, PD f n → n + (if n = 0 ∨ (f (n - 1)).toInt = 12 then 2 else if (f (n - 1)).toInt = 11 then 1 else 0) ≤ 3 * cO f n + 2 := by
  intro n
  induction n with
  | zero => intro _; simp [cO]
  | succ n ih =>
    intro h
    have h1 := ih (h.pre (by omega))
    have h2 := h n (by omega)
    have h3 := c_step (f := f) (n := n) (m := n + 1) rfl
    have e1 : n + 1 - 1 = n := by omega
    rw [e1]
    have n0 : ¬ (n + 1 = 0) := by omega
    rcases h2.1 with c | c | c | c
    · have h4 := h3.1 c
      rw [if_neg (by rw [c]; omega), if_neg (by rw [c]; decide), h4.1]
      split at h1 <;> (try split at h1) <;> omega
    · have h4 := h3.2.1 (Or.inl c)
      rw [if_neg (by rw [c]; omega), if_neg (by rw [c]; decide), h4.1]
      rcases h2.2.1 with q | q | q | q
      · exact absurd c q
      · rw [if_pos (Or.inl q)] at h1; omega
      · by_cases z : n = 0 ∨ (f (n - 1)).toInt = 12
        · rw [if_pos z] at h1; omega
        · rw [if_neg z, if_pos q] at h1; omega
      · rw [if_pos (Or.inr q)] at h1; omega
    · have h4 := h3.2.1 (Or.inr c)
      rw [if_neg (by rw [c]; omega), if_pos c, h4.1]
      rcases h2.2.2 with q | q | q
      · exact absurd c q
      · rw [if_pos (Or.inl q)] at h1; omega
      · rw [if_pos (Or.inr q)] at h1; omega
    · have h4 := h3.2.2 c
      rw [if_pos (Or.inr c), h4.1]
      split at h1 <;> (try split at h1) <;> omega
theorem PD.n26 {f : Nat → Int32} {n : Nat} (h : PD f n) (ho : cO f n ≤ 8) : n ≤ 26 := by
  have := h.le
  omega
/-- one more waits -/
theorem PD.push {f f1 : Nat → Int32} {n m : Nat} (h : PD f n) (e : ∀ j, j < n → f1 j = f j) (hm : m = n + 1) (hv : (f1 n).toInt = 9 ∨ (f1 n).toInt = 12 ∨ ((f1 n).toInt = 10 ∧ (n = 0 ∨ (f (n - 1)).toInt = 11 ∨ (f (n - 1)).toInt = 12)) ∨ ((f1 n).toInt = 11 ∧ (n = 0 ∨ (f (n - 1)).toInt = 12))) : PD f1 m := by
  subst hm
  intro j hj
  by_cases c : j = n
  · subst c
    by_cases z : j = 0
    · subst z
      exact ⟨by omega, Or.inr (Or.inl rfl), Or.inr (Or.inl rfl)⟩
    · rw [e (j - 1) (by omega)]
      exact ⟨by omega, by omega, by omega⟩
  · exact (h.congr e) j (by omega)
theorem WF.castE {f g : Nat → Int32} {a a' z z' D E E' : Nat} (h : WF f g a z D E) (ha : a' = a) (hz : z' = z) (hE : E' = E) : WF f g a' z' D E' := by rw [ha, hz, hE]; exact h
set_option maxHeartbeats 4000000 in
set_option maxRecDepth 100000 in
theorem a_X10_waits (l : Launch) (K : KE) (G : Nat → Option Nat) (H : Heap) {a0 : Nat} (x1 : Int32) {pq : Nat} (pn : Int32) (hT : TY K G H) (ga0 : G a0 = some 112) (gpq : G pq = some 138) (epq : pq = fR H a0 (K.1.2 10 37)) (epn : pn = fI H a0 (K.1.2 10 38)) (hg_CG : CG (avw K H a0)) (hg_TU : TU (avw K H a0) (svw K H a0)) (hg_WD : WD (avw K H a0)) (hg_IM : IM (avw K H a0)) (hp0 : pn.toInt ≤ 39) : MX l K yX10_waits cX10_waits 2 none 0 0 0 0 [.ref a0, .int x1] H (AE G [112, 138] H.size) (fun v H1 => ∃ (t0 : Int32), v = none ∧ t0 = fI H1 a0 (K.1.2 10 38) ∧ (t0.toInt = pn.toInt + 1) ∧ pq = fR H1 a0 (K.1.2 10 37) ∧ (CG (avw K H1 a0)) ∧ (TU (avw K H1 a0) (svw K H1 a0)) ∧ (WD (avw K H1 a0)) ∧ (IM (avw K H1 a0)) ∧ MF K H H1 a0 [38] ∧ (x1 = fI H1 pq pn.toNatClampNeg) ∧ (∀ j : Nat, j ≠ pn.toNatClampNeg → fI H1 pq j = fI H pq j) ∧ TY K G H1) := by
  refine MX.of (by decide +kernel) (Nat.le_of_ble_eq_true rfl) ?_
  intro p e s m below meth c ls Q C hH hl hQ
  subst hH
  have C : CX p K s m _ meth c RX10 cX10_waits 2 none "waits" := C
  obtain ⟨hx, hb, hml, hown, hts, hKT, hr, hlocks, hnm⟩ := id C
  have hl : lv_has ls 2 [(0, .ref a0), (1, .int x1)] := hl
  have hS : va_S (AE G [112, 138] s.heap.size) s.heap s.heap [] := va_S.rf
  have n_1 : (1 : Int32).toInt = 1 := rfl
  have bpn := ty_fi (x := pn) (k := 38) epn hT ga0 rg_112 rfl
  have hap : ∀ x y, x < 74 → y < 74 → x ≠ y → K.1.2 10 x ≠ K.1.2 10 y := x_apart hKT hts inX10 tyX10 tyX10_ok nmX10 rfl
  have mf0 : MF K s.heap s.heap a0 [38] := fun _ _ _ => rfl
  refine lv_aload_n hx hb dX10_waits_0 rfl (lv_at hl 0 rfl) ?_
  refine x_gr C hT (ci := 10) (k := 37) rfl inX10 (by decide) wF_X10_89 ga0 rg_112 rfl dX10_waits_1 (fun q193 eq193 gq193 => ?_)
  have uq193 : pq = q193 := (epq).trans eq193.symm
  subst uq193
  refine lv_aload_n hx hb dX10_waits_4 rfl (lv_at hl 0 rfl) ?_
  refine x_gi C hT (ci := 10) (k := 38) rfl inX10 (by decide) wF_X10_258 ga0 rg_112 rfl dX10_waits_5 (fun x194 ex194 bx194 => ?_)
  have ux194 : pn = x194 := (epn).trans ex194.symm
  subst ux194
  refine lv_iload_n hx hb dX10_waits_8 rfl (lv_at hl 1 rfl) ?_
  refine x_iast C hT hS gpq rg_138 (by omega) (by show _ < ((40 : Nat) : Int); omega) ⟨by have := i_rng x1; omega, by have := i_rng x1; omega⟩ (AE_in gpq (by decide)) dX10_waits_9 (fun H195 locsH195 hTH195 hSH195 wH195 => ?_)
  have mf196 : MF K s.heap H195 a0 [38] := MF.arr wH195 (G_ne ga0 gpq (by decide)) mf0
  have g197 : CG (avw K H195 a0) := CG.congr (fun k hk j => av_arr hT ga0 wH195 gpq (by decide) (CG_ok 138 (by decide) k hk)) hg_CG
  have g198 : TU (avw K H195 a0) (svw K H195 a0) := TU.congr (fun k hk j => av_arr hT ga0 wH195 gpq (by decide) (TU_ok 138 (by decide) k hk)) (fun k hk => sv_arr ga0 wH195 gpq (by decide)) hg_TU
  have g199 : WD (avw K H195 a0) := WD.congr (fun k hk j => av_arr hT ga0 wH195 gpq (by decide) (WD_ok 138 (by decide) k hk)) hg_WD
  have g200 : IM (avw K H195 a0) := IM.congr (fun k hk j => av_arr hT ga0 wH195 gpq (by decide) (IM_ok 138 (by decide) k hk)) hg_IM
  have m201 := epq.trans (Wr.neR wH195 (Or.inl (G_ne ga0 gpq (by decide)))).symm
  have m202 := epn.trans (Wr.neI wH195 (Or.inl (G_ne ga0 gpq (by decide)))).symm
  have m203 := Wr.I wH195
  have m203 := m203.symm
  refine lv_aload_n hx hb dX10_waits_10 rfl (lv_at hl 0 rfl) ?_
  refine lv_aload_n hx hb dX10_waits_11 rfl (lv_at hl 0 rfl) ?_
  refine x_gi C hTH195 (ci := 10) (k := 38) rfl inX10 (by decide) wF_X10_258 ga0 rg_112 rfl dX10_waits_12 (fun x204 ex204 bx204 => ?_)
  have ux204 : pn = x204 := (m202).trans ex204.symm
  subst ux204
  refine lv_iconst (v := 1) hx hb dX10_waits_15 (by decide) ?_
  refine lv_iadd hx hb dX10_waits_16 ?_
  refine lv_topi (fun x205 ex205 => ?_)
  have tx205 := i_add ex205 (by omega)
  refine x_put C hTH195 hSH195 (ci := 10) (k := 38) (v := .int x205) (ty0 := tyX10) rfl inX10 tyX10_ok nmX10 (by decide) rfl wF_X10_258 ga0 rg_112 rfl rfl (okI (by have := i_rng x205; omega) (by have := i_rng x205; omega)) rfl rfl (AE_in ga0 (by decide)) dX10_waits_17 (fun H206 locsH206 hTH206 hSH206 wH206 => ?_)
  have mf207 : MF K s.heap H206 a0 [38] := MF.fld hap wH206 (by decide) (by decide) mf196
  have g208 : CG (avw K H206 a0) := CG.congr (fun k hk j => av_fld hTH195 ga0 hap wH206 (by decide) (CG_ok 112 (by decide) k hk) (CG_ne 38 (by decide) k hk)) g197
  have g209 : TU (avw K H206 a0) (svw K H206 a0) := TU.congr (fun k hk j => av_fld hTH195 ga0 hap wH206 (by decide) (TU_ok 112 (by decide) k hk) (TU_ne 38 (by decide) k hk)) (fun k hk => sv_fld hap wH206 (by decide) (TU_slt k hk) (TU_sne 38 (by decide) k hk)) g198
  have g210 : WD (avw K H206 a0) := WD.congr (fun k hk j => av_fld hTH195 ga0 hap wH206 (by decide) (WD_ok 112 (by decide) k hk) (WD_ne 38 (by decide) k hk)) g199
  have g211 : IM (avw K H206 a0) := IM.congr (fun k hk j => av_fld hTH195 ga0 hap wH206 (by decide) (IM_ok 112 (by decide) k hk) (IM_ne 38 (by decide) k hk)) g200
  have m212 := m201.trans (Wr.neR wH206 (Or.inr (x_apart hKT hts inX10 tyX10 tyX10_ok nmX10 rfl 37 38 (by decide) (by decide) (by decide)))).symm
  have m214 := m203.trans (Wr.neI wH206 (Or.inl (G_ne gpq ga0 (by decide)))).symm
  have m215 := Wr.I wH206
  have m215 := m215.symm
  exact x_vret C hQ dX10_waits_20 hSH206 (by decide) (by decide) (⟨x205, rfl, m215, by omega, m212, g208, g209, g210, g211, mf207, m214, (fun j hj => (Wr.neI wH206 (Or.inl (G_ne gpq ga0 (by decide)))).trans (Wr.neI wH195 (Or.inr hj))), hTH206⟩)

set_option maxHeartbeats 4000000 in
set_option maxRecDepth 100000 in
theorem a_X10_settles (l : Launch) (K : KE) (G : Nat → Option Nat) (H : Heap) {a0 : Nat} (x1 : Int32) {oq : Nat} {aq : Nat} {pq : Nat} (m0 : Int32) (pn : Int32) (mn : Int32) (on : Int32) (hT : TY K G H) (ga0 : G a0 = some 112) (hx1 : 9 ≤ x1.toInt ∧ x1.toInt ≤ 11) (goq : G oq = some 136) (eoq : oq = fR H a0 (K.1.2 10 32)) (gaq : G aq = some 137) (eaq : aq = fR H a0 (K.1.2 10 33)) (gpq : G pq = some 138) (epq : pq = fR H a0 (K.1.2 10 37)) (epn : pn = fI H a0 (K.1.2 10 38)) (emn : mn = fI H a0 (K.1.2 10 35)) (eon : on = fI H a0 (K.1.2 10 36)) (hg_CG : CG (avw K H a0)) (hg_TU : TU (avw K H a0) (svw K H a0)) (hg_WD : WD (avw K H a0)) (hg_IM : IM (avw K H a0)) (hb_wf : WF (fun k => fI H oq k) (fun k => fI H aq k) (3000 + m0.toNatClampNeg) (3000 + mn.toNatClampNeg) 0 (cB (fun j => fI H pq j) pn.toNatClampNeg + 1)) (hp0 : mn.toInt + pn.toInt ≤ 500) (hp1 : 0 ≤ m0.toInt ∧ m0.toInt ≤ mn.toInt) (hy0 : PD (fun j => fI H pq j) pn.toNatClampNeg) (hy1 : ((cO (fun j => fI H pq j) pn.toNatClampNeg : Nat) : Int) ≤ on.toInt) : MX l K yX10_settles cX10_settles 2 none 1 22 0 0 [.ref a0, .int x1] H (AE G [112, 136, 137] H.size) (fun v H1 => ∃ (t0 : Int32) (t1 : Int32) (t2 : Int32), v = none ∧ t0 = fI H1 a0 (K.1.2 10 38) ∧ t1 = fI H1 a0 (K.1.2 10 35) ∧ t2 = fI H1 a0 (K.1.2 10 36) ∧ (t0.toInt ≤ pn.toInt ∧ t1.toInt + t0.toInt = mn.toInt + pn.toInt ∧ ((x1.toInt = 9 ∧ t2.toInt + pn.toInt = on.toInt + t0.toInt) ∨ (x1.toInt ≠ 9 ∧ t2.toInt = on.toInt))) ∧ oq = fR H1 a0 (K.1.2 10 32) ∧ aq = fR H1 a0 (K.1.2 10 33) ∧ pq = fR H1 a0 (K.1.2 10 37) ∧ (CG (avw K H1 a0)) ∧ (TU (avw K H1 a0) (svw K H1 a0)) ∧ (WD (avw K H1 a0)) ∧ (IM (avw K H1 a0)) ∧ MF K H H1 a0 [35, 36, 38] ∧ (∀ j : Nat, j < 3000 + mn.toNatClampNeg → fI H1 oq j = fI H oq j ∧ fI H1 aq j = fI H aq j) ∧ (((cO (fun j => fI H pq j) t0.toNatClampNeg : Nat) : Int) ≤ t2.toInt) ∧ (cK (fun j => fI H pq j) t0.toNatClampNeg = cK (fun j => fI H pq j) pn.toNatClampNeg) ∧ (t0.toInt = 0 ∨ (fI H pq (t0.toNatClampNeg - 1)).toInt ≠ x1.toInt) ∧ (WF (fun k => fI H1 oq k) (fun k => fI H1 aq k) (3000 + m0.toNatClampNeg) (3000 + t1.toNatClampNeg) 0 (cB (fun j => fI H pq j) t0.toNatClampNeg + 1)) ∧ (t0.toInt = pn.toInt ∨ (fI H pq t0.toNatClampNeg).toInt = x1.toInt) ∧ TY K G H1) := by
  refine MX.of (by decide +kernel) (Nat.le_of_ble_eq_true rfl) ?_
  intro p e s m below meth c ls Q C hH hl hQ
  subst hH
  have C : CX p K s m _ meth c RX10 cX10_settles 2 none "settles" := C
  obtain ⟨hx, hb, hml, hown, hts, hKT, hr, hlocks, hnm⟩ := id C
  have hl : lv_has ls 2 [(0, .ref a0), (1, .int x1)] := hl
  have hS : va_S (AE G [112, 136, 137] s.heap.size) s.heap s.heap [] := va_S.rf
  have n_0 : (0 : Int32).toInt = 0 := rfl
  have n_1 : (1 : Int32).toInt = 1 := rfl
  have n_9 : (9 : Int32).toInt = 9 := rfl
  have bpn := ty_fi (x := pn) (k := 38) epn hT ga0 rg_112 rfl
  have bmn := ty_fi (x := mn) (k := 35) emn hT ga0 rg_112 rfl
  have bon := ty_fi (x := on) (k := 36) eon hT ga0 rg_112 rfl
  have hap : ∀ x y, x < 74 → y < 74 → x ≠ y → K.1.2 10 x ≠ K.1.2 10 y := x_apart hKT hts inX10 tyX10 tyX10_ok nmX10 rfl
  have mf0 : MF K s.heap s.heap a0 [35, 36, 38] := fun _ _ _ => rfl
  have f0_pe : ∀ j : Nat, fI s.heap pq j = fI s.heap pq j := fun _ => rfl
  have J0 : ∀ (nf : Nat)  (ls406 : Array Slot) (H405 : Heap) (locsH405 : List Loc) (x408 : Int32) (x409 : Int32) (x410 : Int32), lv_has ls406 2 [(0, .ref a0), (1, .int x1)] → TY K G H405 → va_S (AE G [112, 136, 137] s.heap.size) s.heap H405 locsH405 → (0 ≤ x408.toInt ∧ x408.toInt ≤ 40) → (0 ≤ x409.toInt ∧ x409.toInt ≤ 500) → (0 ≤ x410.toInt ∧ x410.toInt ≤ 8) → (x408 = fI H405 a0 (K.1.2 10 38)) → (x409 = fI H405 a0 (K.1.2 10 35)) → (x410 = fI H405 a0 (K.1.2 10 36)) → (oq = fR H405 a0 (K.1.2 10 32)) → (aq = fR H405 a0 (K.1.2 10 33)) → (pq = fR H405 a0 (K.1.2 10 37)) → (∀ j : Nat, j < 3000 + mn.toNatClampNeg → fI H405 oq j = fI s.heap oq j ∧ fI H405 aq j = fI s.heap aq j) → (WF (fun k => fI H405 oq k) (fun k => fI H405 aq k) (3000 + m0.toNatClampNeg) (3000 + x409.toNatClampNeg) 0 (cB (fun j => fI s.heap pq j) x408.toNatClampNeg + 1)) → (MF K s.heap H405 a0 [35, 36, 38]) → (CG (avw K H405 a0)) → (TU (avw K H405 a0) (svw K H405 a0)) → (WD (avw K H405 a0)) → (IM (avw K H405 a0)) → (∀ j : Nat, fI H405 pq j = fI s.heap pq j) → (x408.toInt < (nf : Int)) → (x408.toInt ≤ pn.toInt ∧ x409.toInt + x408.toInt = mn.toInt + pn.toInt ∧ ((x1.toInt = 9 ∧ x410.toInt + pn.toInt = on.toInt + x408.toInt) ∨ (x1.toInt ≠ 9 ∧ x410.toInt = on.toInt))) → (((cO (fun j => fI s.heap pq j) x408.toNatClampNeg : Nat) : Int) ≤ x410.toInt) → (cK (fun j => fI s.heap pq j) x408.toNatClampNeg = cK (fun j => fI s.heap pq j) pn.toNatClampNeg) → (x408.toInt = pn.toInt ∨ (fI s.heap pq x408.toNatClampNeg).toInt = x1.toInt) → W p l e ({ frames := 1, cells := 0, slots := 0, locals := 22 } : Room) s m (([.ref a0, .int x1] : List Value).toArray) below meth c H405 locsH405 0 0 Q (F0 m 0 ls406 []) := by
    intro nf
    induction nf with
    | zero =>
      intro  ls406 H405 locsH405 x408 x409 x410 hl407 hTH405 hSH405 bx408 bx409 bx410 ex408 ex409 ex410 cy411_0 cy411_1 cy411_2 by411_pf by411_wf mfy411 gy411_CG gy411_TU gy411_WD gy411_IM fy411_pe hm0 iv0 hJ1 hJ2 hJ3
      exfalso
      omega
    | succ nf ih0 =>
      intro  ls406 H405 locsH405 x408 x409 x410 hl407 hTH405 hSH405 bx408 bx409 bx410 ex408 ex409 ex410 cy411_0 cy411_1 cy411_2 by411_pf by411_wf mfy411 gy411_CG gy411_TU gy411_WD gy411_IM fy411_pe hm0 iv0 hJ1 hJ2 hJ3
      refine lv_aload_n hx hb dX10_settles_0 rfl (lv_at hl407 0 rfl) ?_
      refine x_gi C hTH405 (ci := 10) (k := 38) rfl inX10 (by decide) wF_X10_258 ga0 rg_112 rfl dX10_settles_1 (fun x412 ex412 bx412 => ?_)
      have ux412 : x408 = x412 := (ex408).trans ex412.symm
      subst ux412
      refine lv_if_le (tgt := 57) hx hb dX10_settles_4 (by decide) (fun c413 => ?_) (fun c413 => ?_)
      · have k414 := i_le c413
        exact x_vret C hQ dX10_settles_57 hSH405 (by decide) (by decide) (⟨x408, x409, x410, rfl, ex408, ex409, ex410, by omega, cy411_0, cy411_1, cy411_2, gy411_CG, gy411_TU, gy411_WD, gy411_IM, mfy411, by411_pf, hJ1, hJ2, Or.inl (by omega), (WF.castE by411_wf (by omega) (by omega) (by omega)), hJ3, hTH405⟩)
      · have k414 := i_nle c413
        refine lv_aload_n hx hb dX10_settles_7 rfl (lv_at hl407 0 rfl) ?_
        refine x_gr C hTH405 (ci := 10) (k := 37) rfl inX10 (by decide) wF_X10_89 ga0 rg_112 rfl dX10_settles_8 (fun q415 eq415 gq415 => ?_)
        have uq415 : pq = q415 := (cy411_2).trans eq415.symm
        subst uq415
        refine lv_aload_n hx hb dX10_settles_11 rfl (lv_at hl407 0 rfl) ?_
        refine x_gi C hTH405 (ci := 10) (k := 38) rfl inX10 (by decide) wF_X10_258 ga0 rg_112 rfl dX10_settles_12 (fun x416 ex416 bx416 => ?_)
        have ux416 : x408 = x416 := (ex408).trans ex416.symm
        subst ux416
        refine lv_iconst (v := 1) hx hb dX10_settles_15 (by decide) ?_
        refine lv_isub hx hb dX10_settles_16 ?_
        refine lv_topi (fun x417 ex417 => ?_)
        have tx417 := i_sub ex417 (by omega)
        refine x_ai C hTH405 gpq rg_138 ⟨by omega, by show _ < ((40 : Nat) : Int); omega⟩ dX10_settles_17 (fun x418 ex418 bx418 => ?_)
        have hprx418 : x418.toInt = (fI s.heap pq x417.toNatClampNeg).toInt := by rw [ex418, fy411_pe]
        refine lv_iload_n hx hb dX10_settles_18 rfl (lv_at hl407 1 rfl) ?_
        refine lv_icmp_ne (tgt := 57) hx hb dX10_settles_19 (by decide) (fun c419 => ?_) (fun c419 => ?_)
        · have k420 := i_ne c419
          have cq_x408 := i_cl (x := x408) (by omega)
          have cq_x417 := i_cl (x := x417) (by omega)
          rw [show x417.toNatClampNeg = x408.toNatClampNeg - 1 by omega] at hprx418
          exact x_vret C hQ dX10_settles_57 hSH405 (by decide) (by decide) (⟨x408, x409, x410, rfl, ex408, ex409, ex410, by omega, cy411_0, cy411_1, cy411_2, gy411_CG, gy411_TU, gy411_WD, gy411_IM, mfy411, by411_pf, hJ1, hJ2, Or.inr (by omega), (WF.castE by411_wf (by omega) (by omega) (by omega)), hJ3, hTH405⟩)
        · have k420 := i_eq c419
          refine lv_aload_n hx hb dX10_settles_22 rfl (lv_at hl407 0 rfl) ?_
          refine lv_aload_n hx hb dX10_settles_23 rfl (lv_at hl407 0 rfl) ?_
          refine x_gi C hTH405 (ci := 10) (k := 38) rfl inX10 (by decide) wF_X10_258 ga0 rg_112 rfl dX10_settles_24 (fun x421 ex421 bx421 => ?_)
          have ux421 : x408 = x421 := (ex408).trans ex421.symm
          subst ux421
          refine lv_iconst (v := 1) hx hb dX10_settles_27 (by decide) ?_
          refine lv_isub hx hb dX10_settles_28 ?_
          refine lv_topi (fun x422 ex422 => ?_)
          have tx422 := i_sub ex422 (by omega)
          refine x_put C hTH405 hSH405 (ci := 10) (k := 38) (v := .int x422) (ty0 := tyX10) rfl inX10 tyX10_ok nmX10 (by decide) rfl wF_X10_258 ga0 rg_112 rfl rfl (okI (by have := i_rng x422; omega) (by have := i_rng x422; omega)) rfl rfl (AE_in ga0 (by decide)) dX10_settles_29 (fun H423 locsH423 hTH423 hSH423 wH423 => ?_)
          have mf424 : MF K s.heap H423 a0 [35, 36, 38] := MF.fld hap wH423 (by decide) (by decide) mfy411
          have g425 : CG (avw K H423 a0) := CG.congr (fun k hk j => av_fld hTH405 ga0 hap wH423 (by decide) (CG_ok 112 (by decide) k hk) (CG_ne 38 (by decide) k hk)) gy411_CG
          have g426 : TU (avw K H423 a0) (svw K H423 a0) := TU.congr (fun k hk j => av_fld hTH405 ga0 hap wH423 (by decide) (TU_ok 112 (by decide) k hk) (TU_ne 38 (by decide) k hk)) (fun k hk => sv_fld hap wH423 (by decide) (TU_slt k hk) (TU_sne 38 (by decide) k hk)) gy411_TU
          have g427 : WD (avw K H423 a0) := WD.congr (fun k hk j => av_fld hTH405 ga0 hap wH423 (by decide) (WD_ok 112 (by decide) k hk) (WD_ne 38 (by decide) k hk)) gy411_WD
          have g428 : IM (avw K H423 a0) := IM.congr (fun k hk j => av_fld hTH405 ga0 hap wH423 (by decide) (IM_ok 112 (by decide) k hk) (IM_ne 38 (by decide) k hk)) gy411_IM
          have b429 : ∀ j : Nat, j < 3000 + mn.toNatClampNeg → fI H423 oq j = fI s.heap oq j ∧ fI H423 aq j = fI s.heap aq j := fun j hj => ⟨(Wr.neI wH423 (Or.inl (G_ne goq ga0 (by decide)))).trans (by411_pf j hj).1, (Wr.neI wH423 (Or.inl (G_ne gaq ga0 (by decide)))).trans (by411_pf j hj).2⟩
          have b430 : WF (fun k => fI H423 oq k) (fun k => fI H423 aq k) (3000 + m0.toNatClampNeg) (3000 + x409.toNatClampNeg) 0 (cB (fun j => fI s.heap pq j) x408.toNatClampNeg + 1) := WF.congr (fun j => Wr.neI wH423 (Or.inl (G_ne goq ga0 (by decide)))) (fun j => Wr.neI wH423 (Or.inl (G_ne gaq ga0 (by decide)))) by411_wf
          have f431 : ∀ j : Nat, fI H423 pq j = fI s.heap pq j := fun j => (Wr.neI wH423 (Or.inl (G_ne gpq ga0 (by decide)))).trans (fy411_pe j)
          have m433 := ex409.trans (Wr.neI wH423 (Or.inr (x_apart hKT hts inX10 tyX10 tyX10_ok nmX10 rfl 35 38 (by decide) (by decide) (by decide)))).symm
          have m434 := ex410.trans (Wr.neI wH423 (Or.inr (x_apart hKT hts inX10 tyX10 tyX10_ok nmX10 rfl 36 38 (by decide) (by decide) (by decide)))).symm
          have m435 := cy411_0.trans (Wr.neR wH423 (Or.inr (x_apart hKT hts inX10 tyX10 tyX10_ok nmX10 rfl 32 38 (by decide) (by decide) (by decide)))).symm
          have m436 := cy411_1.trans (Wr.neR wH423 (Or.inr (x_apart hKT hts inX10 tyX10 tyX10_ok nmX10 rfl 33 38 (by decide) (by decide) (by decide)))).symm
          have m437 := cy411_2.trans (Wr.neR wH423 (Or.inr (x_apart hKT hts inX10 tyX10 tyX10_ok nmX10 rfl 37 38 (by decide) (by decide) (by decide)))).symm
          have m438 := ex418.trans (Wr.neI wH423 (Or.inl (G_ne gpq ga0 (by decide)))).symm
          have m439 := Wr.I wH423
          have m439 := m439.symm
          refine lv_aload_n hx hb dX10_settles_32 rfl (lv_at hl407 0 rfl) ?_
          refine lv_iload_n hx hb dX10_settles_33 rfl (lv_at hl407 1 rfl) ?_
          refine lv_iconst (v := 0) hx hb dX10_settles_34 (by decide) ?_
          refine x_V (As := [.int x1, .int 0]) (rest := []) C (a_X10_emits l K G H423 (x1) (0) (x409) hTH423 ga0 goq m435 gaq m436 m433 g425 g426 g427 g428 (by omega)) yo_X10_emits wM_X10_238 ⟨⟨by decide, by decide⟩, by decide, by decide⟩ (x_rv C hTH423 (ci := 10) rfl ga0 rg_112) rfl hl407.1 rfl (Nat.le_of_ble_eq_true rfl) dX10_settles_35 hSH423 (AE_sub (fun _ _ => rfl) (by decide) hSH423.1) (fun vH440 H440 locsH440 pH440 zH440 kH440 hSH440 => ?_)
          obtain ⟨x441, hvH440, ex441, hrH440, m442, m443, g444, g445, g446, g447, mf448, m449, m450, m451, m452, hTH440⟩ := pH440
          subst hvH440
          have f453 : ∀ j : Nat, fI H440 pq j = fI s.heap pq j := fun j => (fI_kept (x_lt hTH423 kH440 gpq (by decide))).trans (f431 j)
          have m454 := (m438).trans (fI_kept (x_lt hTH423 kH440 gpq (by decide))).symm
          have m455 := (m434).trans (MF.i mf448 (k := 36) (by decide) (by decide)).symm
          have m456 := (m435).trans (MF.r mf448 (k := 32) (by decide) (by decide)).symm
          have m457 := (m436).trans (MF.r mf448 (k := 33) (by decide) (by decide)).symm
          have m458 := (m437).trans (MF.r mf448 (k := 37) (by decide) (by decide)).symm
          have m459 := (m439).trans (MF.i mf448 (k := 38) (by decide) (by decide)).symm
          have mf460 : MF K s.heap H440 a0 [35, 36, 38] := MF.trans mf424 mf448 (by decide)
          have bx441 := ty_fi (x := x441) (k := 35) ex441 hTH440 ga0 rg_112 rfl
          have cem452 := i_cl (x := x409) (by omega)
          have ce_mn := i_cl (x := mn) (by omega)
          have b461 : ∀ j : Nat, j < 3000 + mn.toNatClampNeg → fI H440 oq j = fI s.heap oq j ∧ fI H440 aq j = fI s.heap aq j := fun j hj => ⟨(m451 j (by omega)).trans (b429 j hj).1, (m452 j (by omega)).trans (b429 j hj).2⟩
          have ce_m0 := i_cl (x := m0) (by omega)
          have ce_x408 := i_cl (x := x408) (by omega)
          have b462 : WF (fun k => fI H440 oq k) (fun k => fI H440 aq k) (3000 + m0.toNatClampNeg) (3000 + x409.toNatClampNeg) 0 (cB (fun j => fI s.heap pq j) x408.toNatClampNeg + 1) := WF.keep b430 (fun j hj => m451 j (by omega)) (fun j hj => m452 j (by omega))
          refine W.eq (g2 := F0 m 38 ls406 []) rfl ?_
          have ho := congrArg Int32.toInt m449
          have cz_m0 := i_cl (x := m0) (by omega)
          have cz_x408 := i_cl (x := x408) (by omega)
          have cz_x409 := i_cl (x := x409) (by omega)
          have cz_x417 := i_cl (x := x417) (by omega)
          have cz_x422 := i_cl (x := x422) (by omega)
          have hst := c_step (f := (fun j => fI s.heap pq j)) (n := x422.toNatClampNeg) (m := x408.toNatClampNeg) (by omega)
          rw [show x417.toNatClampNeg = x422.toNatClampNeg by omega] at hprx418
          have wn : WF (fun k => fI H440 oq k) (fun k => fI H440 aq k) (3000 + m0.toNatClampNeg) (3000 + x409.toNatClampNeg + 1) 0 (cB (fun j => fI s.heap pq j) x422.toNatClampNeg + 1) := WF.stp b462 (by omega) (by show ((fI _ oq _).toInt = 9 ∧ _) ∨ (2 ≤ (fI _ oq _).toInt ∧ (fI _ oq _).toInt ≤ 11 ∧ (fI _ oq _).toInt ≠ 9 ∧ _ ∧ _ ∧ ((fI _ oq _).toInt ≠ 5 ∨ _)); omega)
          refine lv_iload_n hx hb dX10_settles_38 rfl (lv_at hl407 1 rfl) ?_
          refine lv_bipush (v := 9) hx hb dX10_settles_39 (by decide) ?_
          refine lv_icmp_ne (tgt := 0) hx hb dX10_settles_41 (by decide) (fun c463 => ?_) (fun c463 => ?_)
          · have k464 := i_ne c463
            have cl_mn := i_cl (x := mn) (by omega)
            have cl_m0 := i_cl (x := m0) (by omega)
            have cl_x409 := i_cl (x := x409) (by omega)
            have cl_x422 := i_cl (x := x422) (by omega)
            have cl_x441 := i_cl (x := x441) (by omega)
            exact ih0  ls406 H440 locsH440 (x422) (x441) (x410) (lv_sub hl407 [0, 1] rfl) hTH440 hSH440 (by have := i_rng x422; omega) (by have := i_rng x441; omega) (by have := i_rng x410; omega) m459 ex441 m455 m442 m443 m458 b461 (WF.castE wn (by omega) (by omega) (by omega)) mf460 g444 g445 g446 g447 f453 (by omega) (by omega) (by omega) (by omega) (by omega)
          · have k464 := i_eq c463
            refine lv_aload_n hx hb dX10_settles_44 rfl (lv_at hl407 0 rfl) ?_
            refine lv_aload_n hx hb dX10_settles_45 rfl (lv_at hl407 0 rfl) ?_
            refine x_gi C hTH440 (ci := 10) (k := 36) rfl inX10 (by decide) wF_X10_261 ga0 rg_112 rfl dX10_settles_46 (fun x465 ex465 bx465 => ?_)
            have ux465 : x410 = x465 := (m455).trans ex465.symm
            subst ux465
            refine lv_iconst (v := 1) hx hb dX10_settles_49 (by decide) ?_
            refine lv_isub hx hb dX10_settles_50 ?_
            refine lv_topi (fun x466 ex466 => ?_)
            have tx466 := i_sub ex466 (by omega)
            have fz468 : 0 ≤ x466.toInt ∧ x466.toInt ≤ 8 := by have := i_rng x466; omega
            refine x_put C hTH440 hSH440 (ci := 10) (k := 36) (v := .int x466) (ty0 := tyX10) rfl inX10 tyX10_ok nmX10 (by decide) rfl wF_X10_261 ga0 rg_112 rfl rfl (okI (by have := i_rng x466; omega) (by have := i_rng x466; omega)) rfl rfl (AE_in ga0 (by decide)) dX10_settles_51 (fun H467 locsH467 hTH467 hSH467 wH467 => ?_)
            have mf469 : MF K s.heap H467 a0 [35, 36, 38] := MF.fld hap wH467 (by decide) (by decide) mf460
            have g470 : CG (avw K H467 a0) := CG.congr (fun k hk j => av_fld hTH440 ga0 hap wH467 (by decide) (CG_ok 112 (by decide) k hk) (CG_ne 36 (by decide) k hk)) g444
            have g471 : TU (avw K H467 a0) (svw K H467 a0) := TU.congr (fun k hk j => av_fld hTH440 ga0 hap wH467 (by decide) (TU_ok 112 (by decide) k hk) (TU_ne 36 (by decide) k hk)) (fun k hk => sv_fld hap wH467 (by decide) (TU_slt k hk) (TU_sne 36 (by decide) k hk)) g445
            have g472 : WD (avw K H467 a0) := WD.congr (fun k hk j => av_fld hTH440 ga0 hap wH467 (by decide) (WD_ok 112 (by decide) k hk) (WD_ne 36 (by decide) k hk)) g446
            have g473 : IM (avw K H467 a0) := IM.congr (fun k hk j => av_fld hTH440 ga0 hap wH467 (by decide) (IM_ok 112 (by decide) k hk) (IM_ne 36 (by decide) k hk)) g447
            have b474 : ∀ j : Nat, j < 3000 + mn.toNatClampNeg → fI H467 oq j = fI s.heap oq j ∧ fI H467 aq j = fI s.heap aq j := fun j hj => ⟨(Wr.neI wH467 (Or.inl (G_ne goq ga0 (by decide)))).trans (b461 j hj).1, (Wr.neI wH467 (Or.inl (G_ne gaq ga0 (by decide)))).trans (b461 j hj).2⟩
            have b475 : WF (fun k => fI H467 oq k) (fun k => fI H467 aq k) (3000 + m0.toNatClampNeg) (3000 + x409.toNatClampNeg + 1) 0 (cB (fun j => fI s.heap pq j) x422.toNatClampNeg + 1) := WF.congr (fun j => Wr.neI wH467 (Or.inl (G_ne goq ga0 (by decide)))) (fun j => Wr.neI wH467 (Or.inl (G_ne gaq ga0 (by decide)))) wn
            have f476 : ∀ j : Nat, fI H467 pq j = fI s.heap pq j := fun j => (Wr.neI wH467 (Or.inl (G_ne gpq ga0 (by decide)))).trans (f453 j)
            have m477 := m454.trans (Wr.neI wH467 (Or.inl (G_ne gpq ga0 (by decide)))).symm
            have m479 := m442.trans (Wr.neR wH467 (Or.inr (x_apart hKT hts inX10 tyX10 tyX10_ok nmX10 rfl 32 36 (by decide) (by decide) (by decide)))).symm
            have m480 := m443.trans (Wr.neR wH467 (Or.inr (x_apart hKT hts inX10 tyX10 tyX10_ok nmX10 rfl 33 36 (by decide) (by decide) (by decide)))).symm
            have m481 := m458.trans (Wr.neR wH467 (Or.inr (x_apart hKT hts inX10 tyX10 tyX10_ok nmX10 rfl 37 36 (by decide) (by decide) (by decide)))).symm
            have m482 := m459.trans (Wr.neI wH467 (Or.inr (x_apart hKT hts inX10 tyX10 tyX10_ok nmX10 rfl 38 36 (by decide) (by decide) (by decide)))).symm
            have m483 := ex441.trans (Wr.neI wH467 (Or.inr (x_apart hKT hts inX10 tyX10 tyX10_ok nmX10 rfl 35 36 (by decide) (by decide) (by decide)))).symm
            have m484 := Wr.I wH467
            have m484 := m484.symm
            refine lv_goto (tgt := 0) hx hb dX10_settles_54 (by decide) ?_
            have cl_mn := i_cl (x := mn) (by omega)
            have cl_m0 := i_cl (x := m0) (by omega)
            have cl_x409 := i_cl (x := x409) (by omega)
            have cl_x422 := i_cl (x := x422) (by omega)
            have cl_x441 := i_cl (x := x441) (by omega)
            exact ih0  ls406 H467 locsH467 (x422) (x441) (x466) (lv_sub hl407 [0, 1] rfl) hTH467 hSH467 (by have := i_rng x422; omega) (by have := i_rng x441; omega) (by have := i_rng x466; omega) m482 m483 m484 m479 m480 m481 b474 (WF.castE b475 (by omega) (by omega) (by omega)) mf469 g470 g471 g472 g473 f476 (by omega) (by omega) (by omega) (by omega) (by omega)
  have pf00 : ∀ j : Nat, j < 3000 + mn.toNatClampNeg → fI s.heap oq j = fI s.heap oq j ∧ fI s.heap aq j = fI s.heap aq j := fun _ _ => ⟨rfl, rfl⟩
  have hmn := i_cl (x := mn) (by omega)
  have cl_mn := i_cl (x := mn) (by omega)
  have cl_m0 := i_cl (x := m0) (by omega)
  have cl_mn := i_cl (x := mn) (by omega)
  have cl_pn := i_cl (x := pn) (by omega)
  exact J0 ((pn.toInt).toNat + 1)  ls s.heap [] (pn) (mn) (on) (lv_sub hl [0, 1] rfl) hT hS (by have := i_rng pn; omega) (by have := i_rng mn; omega) (by have := i_rng on; omega) epn emn eon eoq eaq epq pf00 (WF.castE hb_wf (by omega) (by omega) (by omega)) mf0 hg_CG hg_TU hg_WD hg_IM f0_pe (by omega) (by omega) hy1 rfl (Or.inl rfl)
