/-- what waits: 9 not, 10 and, 11 or, 12 a bracket -/
def PD (f : Nat → Int32) (n : Nat) : Prop := ∀ j : Nat, j < n → ((f j).toInt = 9 ∨ (f j).toInt = 10 ∨ (f j).toInt = 11 ∨ (f j).toInt = 12) ∧ ((f j).toInt ≠ 10 ∨ j = 0 ∨ (f (j - 1)).toInt = 11 ∨ (f (j - 1)).toInt = 12) ∧ ((f j).toInt ≠ 11 ∨ j = 0 ∨ (f (j - 1)).toInt = 12)
/-- how many are of a kind: p 9 and 12 (open), 10 and 11 (two-sided), 12 (brackets) -/
def cO (f : Nat → Int32) : Nat → Nat
  | 0 => 0
  | n + 1 => cO f n + (if (f n).toInt = 9 ∨ (f n).toInt = 12 then 1 else 0)
def cB (f : Nat → Int32) : Nat → Nat
  | 0 => 0
  | n + 1 => cB f n + (if (f n).toInt = 10 ∨ (f n).toInt = 11 then 1 else 0)
def cK (f : Nat → Int32) : Nat → Nat
  | 0 => 0
  | n + 1 => cK f n + (if (f n).toInt = 12 then 1 else 0)
theorem PD.pre {f : Nat → Int32} {n m : Nat} (h : PD f n) (hm : m ≤ n) : PD f m := fun j hj => h j (by omega)
theorem PD.nil {f : Nat → Int32} : PD f 0 := fun j hj => by omega
theorem PD.congr {f f1 : Nat → Int32} {n : Nat} (e : ∀ j, j < n → f1 j = f j) (h : PD f n) : PD f1 n := by
  intro j hj
  rw [e j hj, e (j - 1) (by omega)]
  exact h j hj
theorem cO_congr {f f1 : Nat → Int32} : ∀ n : Nat, (∀ j, j < n → f1 j = f j) → cO f1 n = cO f n := by
  intro n
  induction n with
  | zero => intro _; rfl
  | succ n ih => intro e; rw [cO, cO, ih (fun j hj => e j (by omega)), e n (by omega)]
theorem cB_congr {f f1 : Nat → Int32} : ∀ n : Nat, (∀ j, j < n → f1 j = f j) → cB f1 n = cB f n := by
  intro n
  induction n with
  | zero => intro _; rfl
  | succ n ih => intro e; rw [cB, cB, ih (fun j hj => e j (by omega)), e n (by omega)]
theorem cK_congr {f f1 : Nat → Int32} : ∀ n : Nat, (∀ j, j < n → f1 j = f j) → cK f1 n = cK f n := by
  intro n
  induction n with
  | zero => intro _; rfl
  | succ n ih => intro e; rw [cK, cK, ih (fun j hj => e j (by omega)), e n (by omega)]
/-- one more, by its kind -/
theorem c_step {f : Nat → Int32} {n m : Nat} (hm : m = n + 1) :
    ((f n).toInt = 9 → cO f m = cO f n + 1 ∧ cB f m = cB f n ∧ cK f m = cK f n) ∧ ((f n).toInt = 10 ∨ (f n).toInt = 11 → cO f m = cO f n ∧ cB f m = cB f n + 1 ∧ cK f m = cK f n) ∧ ((f n).toInt = 12 → cO f m = cO f n + 1 ∧ cB f m = cB f n ∧ cK f m = cK f n + 1) := by
  subst hm
  refine ⟨fun h => ?_, fun h => ?_, fun h => ?_⟩
  · rw [cO, cB, cK, h]; simp
  · rcases h with h | h
    · rw [cO, cB, cK, h]; simp
    · rw [cO, cB, cK, h]; simp
  · rw [cO, cB, cK, h]; simp
theorem PD.le {f : Nat → Int32} : ∀ n : Nat, PD f n → n + (if n = 0 ∨ (f (n - 1)).toInt = 12 then 2 else if (f (n - 1)).toInt = 11 then 1 else 0) ≤ 3 * cO f n + 2 := by
  intro n
  induction n with
  | zero => intro _; simp [cO]
  | succ n ih =>
    intro h
    have h1 := ih (h.pre (by omega))
    have h2 := h n (by omega)
    have h3 := c_step (f := f) (n := n) (m := n + 1) rfl
    have e1 : n + 1 - 1 = n := by omega
    rw [e1]
    have n0 : ¬ (n + 1 = 0) := by omega
    rcases h2.1 with c | c | c | c
    · have h4 := h3.1 c
      rw [if_neg (by rw [c]; omega), if_neg (by rw [c]; decide), h4.1]
      split at h1 <;> (try split at h1) <;> omega
    · have h4 := h3.2.1 (Or.inl c)
      rw [if_neg (by rw [c]; omega), if_neg (by rw [c]; decide), h4.1]
      rcases h2.2.1 with q | q | q | q
      · exact absurd c q
      · rw [if_pos (Or.inl q)] at h1; omega
      · by_cases z : n = 0 ∨ (f (n - 1)).toInt = 12
        · rw [if_pos z] at h1; omega
        · rw [if_neg z, if_pos q] at h1; omega
      · rw [if_pos (Or.inr q)] at h1; omega
    · have h4 := h3.2.1 (Or.inr c)
      rw [if_neg (by rw [c]; omega), if_pos c, h4.1]
      rcases h2.2.2 with q | q | q
      · exact absurd c q
      · rw [if_pos (Or.inl q)] at h1; omega
      · rw [if_pos (Or.inr q)] at h1; omega
    · have h4 := h3.2.2 c
      rw [if_pos (Or.inr c), h4.1]
      split at h1 <;> (try split at h1) <;> omega
theorem PD.n26 {f : Nat → Int32} {n : Nat} (h : PD f n) (ho : cO f n ≤ 8) : n ≤ 26 := by
  have := h.le
  omega
/-- one more waits -/
theorem PD.push {f f1 : Nat → Int32} {n m : Nat} (h : PD f n) (e : ∀ j, j < n → f1 j = f j) (hm : m = n + 1) (hv : (f1 n).toInt = 9 ∨ (f1 n).toInt = 12 ∨ ((f1 n).toInt = 10 ∧ (n = 0 ∨ (f (n - 1)).toInt = 11 ∨ (f (n - 1)).toInt = 12)) ∨ ((f1 n).toInt = 11 ∧ (n = 0 ∨ (f (n - 1)).toInt = 12))) : PD f1 m := by
  subst hm
  intro j hj
  by_cases c : j = n
  · subst c
    by_cases z : j = 0
    · subst z
      exact ⟨by omega, Or.inr (Or.inl rfl), Or.inr (Or.inl rfl)⟩
    · rw [e (j - 1) (by omega)]
      exact ⟨by omega, by omega, by omega⟩
  · exact (h.congr e) j (by omega)
theorem WF.castE {f g : Nat → Int32} {a a' z z' D E E' : Nat} (h : WF f g a z D E) (ha : a' = a) (hz : z' = z) (hE : E' = E) : WF f g a' z' D E' := by rw [ha, hz, hE]; exact h
set_option maxHeartbeats 4000000 in
set_option maxRecDepth 100000 in
theorem a_X10_waits (l : Launch) (K : KE) (G : Nat → Option Nat) (H : Heap) {a0 : Nat} (x1 : Int32) {pq : Nat} (pn : Int32) (hT : TY K G H) (ga0 : G a0 = some 112) (gpq : G pq = some 138) (epq : pq = fR H a0 (K.1.2 10 37)) (epn : pn = fI H a0 (K.1.2 10 38)) (hg_CG : CG (avw K H a0)) (hg_TU : TU (avw K H a0) (svw K H a0)) (hg_WD : WD (avw K H a0)) (hg_IM : IM (avw K H a0)) (hp0 : pn.toInt ≤ 39) : MX l K yX10_waits cX10_waits 2 none 0 0 0 0 [.ref a0, .int x1] H (AE G [112, 138] H.size) (fun v H1 => ∃ (t0 : Int32), v = none ∧ t0 = fI H1 a0 (K.1.2 10 38) ∧ (t0.toInt = pn.toInt + 1) ∧ pq = fR H1 a0 (K.1.2 10 37) ∧ (CG (avw K H1 a0)) ∧ (TU (avw K H1 a0) (svw K H1 a0)) ∧ (WD (avw K H1 a0)) ∧ (IM (avw K H1 a0)) ∧ MF K H H1 a0 [38] ∧ (x1 = fI H1 pq pn.toNatClampNeg) ∧ (∀ j : Nat, j ≠ pn.toNatClampNeg → fI H1 pq j = fI H pq j) ∧ TY K G H1) := by
  refine MX.of (by decide +kernel) (Nat.le_of_ble_eq_true rfl) ?_
  intro p e s m below meth c ls Q C hH hl hQ
  subst hH
  have C : CX p K s m _ meth c RX10 cX10_waits 2 none "waits" := C
  obtain ⟨hx, hb, hml, hown, hts, hKT, hr, hlocks, hnm⟩ := id C
  have hl : lv_has ls 2 [(0, .ref a0), (1, .int x1)] := hl
  have hS : va_S (AE G [112, 138] s.heap.size) s.heap s.heap [] := va_S.rf
  have n_1 : (1 : Int32).toInt = 1 := rfl
  have bpn := ty_fi (x := pn) (k := 38) epn hT ga0 rg_112 rfl
  have hap : ∀ x y, x < 74 → y < 74 → x ≠ y → K.1.2 10 x ≠ K.1.2 10 y := x_apart hKT hts inX10 tyX10 tyX10_ok nmX10 rfl
  have mf0 : MF K s.heap s.heap a0 [38] := fun _ _ _ => rfl
  refine lv_aload_n hx hb dX10_waits_0 rfl (lv_at hl 0 rfl) ?_
  refine x_gr C hT (ci := 10) (k := 37) rfl inX10 (by decide) wF_X10_89 ga0 rg_112 rfl dX10_waits_1 (fun q193 eq193 gq193 => ?_)
  have uq193 : pq = q193 := (epq).trans eq193.symm
  subst uq193
  refine lv_aload_n hx hb dX10_waits_4 rfl (lv_at hl 0 rfl) ?_
  refine x_gi C hT (ci := 10) (k := 38) rfl inX10 (by decide) wF_X10_258 ga0 rg_112 rfl dX10_waits_5 (fun x194 ex194 bx194 => ?_)
  have ux194 : pn = x194 := (epn).trans ex194.symm
  subst ux194
  refine lv_iload_n hx hb dX10_waits_8 rfl (lv_at hl 1 rfl) ?_
  refine x_iast C hT hS gpq rg_138 (by omega) (by show _ < ((40 : Nat) : Int); omega) ⟨by have := i_rng x1; omega, by have := i_rng x1; omega⟩ (AE_in gpq (by decide)) dX10_waits_9 (fun H195 locsH195 hTH195 hSH195 wH195 => ?_)
  have mf196 : MF K s.heap H195 a0 [38] := MF.arr wH195 (G_ne ga0 gpq (by decide)) mf0
  have g197 : CG (avw K H195 a0) := CG.congr (fun k hk j => av_arr hT ga0 wH195 gpq (by decide) (CG_ok 138 (by decide) k hk)) hg_CG
  have g198 : TU (avw K H195 a0) (svw K H195 a0) := TU.congr (fun k hk j => av_arr hT ga0 wH195 gpq (by decide) (TU_ok 138 (by decide) k hk)) (fun k hk => sv_arr ga0 wH195 gpq (by decide)) hg_TU
  have g199 : WD (avw K H195 a0) := WD.congr (fun k hk j => av_arr hT ga0 wH195 gpq (by decide) (WD_ok 138 (by decide) k hk)) hg_WD
  have g200 : IM (avw K H195 a0) := IM.congr (fun k hk j => av_arr hT ga0 wH195 gpq (by decide) (IM_ok 138 (by decide) k hk)) hg_IM
  have m201 := epq.trans (Wr.neR wH195 (Or.inl (G_ne ga0 gpq (by decide)))).symm
  have m202 := epn.trans (Wr.neI wH195 (Or.inl (G_ne ga0 gpq (by decide)))).symm
  have m203 := Wr.I wH195
  have m203 := m203.symm
  refine lv_aload_n hx hb dX10_waits_10 rfl (lv_at hl 0 rfl) ?_
  refine lv_aload_n hx hb dX10_waits_11 rfl (lv_at hl 0 rfl) ?_
  refine x_gi C hTH195 (ci := 10) (k := 38) rfl inX10 (by decide) wF_X10_258 ga0 rg_112 rfl dX10_waits_12 (fun x204 ex204 bx204 => ?_)
  have ux204 : pn = x204 := (m202).trans ex204.symm
  subst ux204
  refine lv_iconst (v := 1) hx hb dX10_waits_15 (by decide) ?_
  refine lv_iadd hx hb dX10_waits_16 ?_
  refine lv_topi (fun x205 ex205 => ?_)
  have tx205 := i_add ex205 (by omega)
  refine x_put C hTH195 hSH195 (ci := 10) (k := 38) (v := .int x205) (ty0 := tyX10) rfl inX10 tyX10_ok nmX10 (by decide) rfl wF_X10_258 ga0 rg_112 rfl rfl (okI (by have := i_rng x205; omega) (by have := i_rng x205; omega)) rfl rfl (AE_in ga0 (by decide)) dX10_waits_17 (fun H206 locsH206 hTH206 hSH206 wH206 => ?_)
  have mf207 : MF K s.heap H206 a0 [38] := MF.fld hap wH206 (by decide) (by decide) mf196
  have g208 : CG (avw K H206 a0) := CG.congr (fun k hk j => av_fld hTH195 ga0 hap wH206 (by decide) (CG_ok 112 (by decide) k hk) (CG_ne 38 (by decide) k hk)) g197
  have g209 : TU (avw K H206 a0) (svw K H206 a0) := TU.congr (fun k hk j => av_fld hTH195 ga0 hap wH206 (by decide) (TU_ok 112 (by decide) k hk) (TU_ne 38 (by decide) k hk)) (fun k hk => sv_fld hap wH206 (by decide) (TU_slt k hk) (TU_sne 38 (by decide) k hk)) g198
  have g210 : WD (avw K H206 a0) := WD.congr (fun k hk j => av_fld hTH195 ga0 hap wH206 (by decide) (WD_ok 112 (by decide) k hk) (WD_ne 38 (by decide) k hk)) g199
  have g211 : IM (avw K H206 a0) := IM.congr (fun k hk j => av_fld hTH195 ga0 hap wH206 (by decide) (IM_ok 112 (by decide) k hk) (IM_ne 38 (by decide) k hk)) g200
  have m212 := m201.trans (Wr.neR wH206 (Or.inr (x_apart hKT hts inX10 tyX10 tyX10_ok nmX10 rfl 37 38 (by decide) (by decide) (by decide)))).symm
  have m214 := m203.trans (Wr.neI wH206 (Or.inl (G_ne gpq ga0 (by decide)))).symm
  have m215 := Wr.I wH206
  have m215 := m215.symm
  exact x_vret C hQ dX10_waits_20 hSH206 (by decide) (by decide) (⟨x205, rfl, m215, by omega, m212, g208, g209, g210, g211, mf207, m214, (fun j hj => (Wr.neI wH206 (Or.inl (G_ne gpq ga0 (by decide)))).trans (Wr.neI wH195 (Or.inr hj))), hTH206⟩)
