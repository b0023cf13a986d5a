/-! ===== what a slice is asked for ===== -/
/-- what is asked of a slice: its number, size, mid, end, thick, grain, heavy, wax -/
def seV (n i t g h w : Int) (j : Nat) : Int := if j = 0 then i else if j = 1 then n else if j = 2 then (if 2 * i + 1 - n < 0 then n - 1 - 2 * i else 2 * i + 1 - n) else if j = 3 then (if i < n - 1 - i then i else n - 1 - i) else if j = 4 then t else if j = 5 then g else if j = 6 then h else if j = 7 then w else 0
def seE (n i t g h w : Int) : Nat → Int32 := fun j => Int32.ofInt (seV n i t g h w j)
/-- the class's units, the reference's row, shown a slice -/
def SEU (u : Nat → Int32) (n i t g h w : Int) : Prop := (u 11).toInt = i ∧ (u 12).toInt = n ∧ ((0 ≤ 2 * i + 1 - n ∧ (u 13).toInt = 2 * i + 1 - n) ∨ (2 * i + 1 - n < 0 ∧ (u 13).toInt = n - 1 - 2 * i)) ∧ ((i ≤ n - 1 - i ∧ (u 14).toInt = i) ∨ (n - 1 - i ≤ i ∧ (u 14).toInt = n - 1 - i)) ∧ (u 15).toInt = t ∧ (u 16).toInt = g ∧ (u 17).toInt = h ∧ (u 6).toInt = w ∧ (u 18).toInt = 0 ∧ (u 19).toInt = 0
def SEA (u : Nat → Int32) (n i t g h w : Int) : Prop := (u 0).toInt = i ∧ (u 1).toInt = n ∧ ((0 ≤ 2 * i + 1 - n ∧ (u 2).toInt = 2 * i + 1 - n) ∨ (2 * i + 1 - n < 0 ∧ (u 2).toInt = n - 1 - 2 * i)) ∧ ((i ≤ n - 1 - i ∧ (u 3).toInt = i) ∨ (n - 1 - i ≤ i ∧ (u 3).toInt = n - 1 - i)) ∧ (u 4).toInt = t ∧ (u 5).toInt = g ∧ (u 6).toInt = h ∧ (u 7).toInt = w ∧ (u 8).toInt = 0 ∧ (u 9).toInt = 0
theorem of_ti {x : Int32} {v : Int} (h : x.toInt = v) : x = Int32.ofInt v := by rw [← h, Int32.ofInt_toInt]
theorem se_all {u : Nat → Int32} {n i t g h w : Int} (s : SEA u n i t g h w) : mkE 1 u = seE n i t g h w := by
  obtain ⟨s0, s1, s2, s3, s4, s5, s6, s7, s8, s9⟩ := s
  funext j
  unfold mkE seE
  by_cases hj : j < 10
  · rw [if_pos (Or.inl ⟨by decide, hj⟩)]
    apply of_ti
    have : j = 0 ∨ j = 1 ∨ j = 2 ∨ j = 3 ∨ j = 4 ∨ j = 5 ∨ j = 6 ∨ j = 7 ∨ j = 8 ∨ j = 9 := by omega
    rcases this with rfl | rfl | rfl | rfl | rfl | rfl | rfl | rfl | rfl | rfl
    · exact s0
    · exact s1
    · show _ = if 2 * i + 1 - n < 0 then n - 1 - 2 * i else 2 * i + 1 - n
      split <;> omega
    · show _ = if i < n - 1 - i then i else n - 1 - i
      split <;> omega
    · exact s4
    · exact s5
    · exact s6
    · exact s7
    · exact s8
    · exact s9
  · rw [if_neg (by omega)]
    unfold seV
    rw [if_neg (by omega), if_neg (by omega), if_neg (by omega), if_neg (by omega), if_neg (by omega), if_neg (by omega), if_neg (by omega), if_neg (by omega)]
    rfl
theorem se_cls {u : Nat → Int32} {n i t g h w : Int} (s : SEU u n i t g h w) : mkE 1 (eC u) = seE n i t g h w := se_all s
/-! as jobs ask -/
def sbV (l h t p : Int) (j : Nat) : Int := if j = 10 then l else if j = 11 then h else if j = 12 then t else if j = 13 then p else 0
def sbE (l h t p : Int) : Nat → Int32 := fun j => Int32.ofInt (sbV l h t p j)
def SBU (u : Nat → Int32) (l h t p : Int) : Prop := (u 20).toInt = l ∧ (u 21).toInt = h ∧ (u 22).toInt = t ∧ (u 23).toInt = p
def SBA (u : Nat → Int32) (l h t p : Int) : Prop := (u 10).toInt = l ∧ (u 11).toInt = h ∧ (u 12).toInt = t ∧ (u 13).toInt = p
theorem sb_all {u : Nat → Int32} {l h t p : Int} (s : SBA u l h t p) : mkE 0 u = sbE l h t p := by
  obtain ⟨s0, s1, s2, s3⟩ := s
  funext j
  unfold mkE sbE
  by_cases hj : 10 ≤ j ∧ j < 14
  · rw [if_pos (Or.inr ⟨rfl, hj⟩)]
    apply of_ti
    have : j = 10 ∨ j = 11 ∨ j = 12 ∨ j = 13 := by omega
    rcases this with rfl | rfl | rfl | rfl
    · exact s0
    · exact s1
    · exact s2
    · exact s3
  · rw [if_neg (by omega)]
    unfold sbV
    rw [if_neg (by omega), if_neg (by omega), if_neg (by omega), if_neg (by omega)]
    rfl
theorem sb_cls {u : Nat → Int32} {l h t p : Int} (s : SBU u l h t p) : mkE 0 (eC u) = sbE l h t p := sb_all s
theorem i_neg {x z : Int32} (e : z = -x) (h : x.toInt ≠ -2147483648) : z.toInt = -x.toInt := by
  have h0 : (0 : Int32).toInt = 0 := rfl
  have hr := i_rng x
  have h1 := i_sub (x := 0) (y := x) (z := z) (by rw [e, Int32.sub_eq_add_neg, Int32.zero_add]) (by omega)
  omega
set_option maxHeartbeats 4000000 in
set_option maxRecDepth 100000 in
theorem a_X6_seeSlice_v (l : Launch) (K : KE) (G : Nat → Option Nat) (H : Heap) {a0 : Nat} {a1 : Nat} (x2 : Int32) (x3 : Int32) (x4 : Int32) (x5 : Int32) {uq : Nat} {hq : Nat} (sz : Int32) (hT : TY K G H) (ga0 : G a0 = some 82) (ga1 : G a1 = some 1) (hx2 : 0 ≤ x2.toInt ∧ x2.toInt ≤ 15) (guq : G uq = some 83) (euq : uq = fR H a0 (K.1.2 6 0)) (ghq : G hq = some 4) (ehq : hq = fR H a1 (K.1.2 0 3)) (esz : sz = fI H a1 (K.1.2 0 0)) : MX l K yX6_seeSlice cX6_seeSlice 6 none 1 15 0 0 [.ref a0, .ref a1, .int x2, .int x3, .int x4, .int x5] H (AE G [83] H.size) (fun v H1 => v = none ∧ (SEU (fun j => fI H1 uq j) sz.toInt x2.toInt x3.toInt x4.toInt (fI H hq x2.toNatClampNeg).toInt x5.toInt) ∧ TY K G H1) := by
  refine MX.of (by decide +kernel) (Nat.le_of_ble_eq_true rfl) ?_
  intro p e s m below meth c ls Q C hH hl hQ
  subst hH
  have C : CX p K s m _ meth c RX6 cX6_seeSlice 6 none "seeSlice" := C
  obtain ⟨hx, hb, hml, hown, hts, hKT, hr, hlocks, hnm⟩ := id C
  have hl : lv_has ls 6 [(0, .ref a0), (1, .ref a1), (2, .int x2), (3, .int x3), (4, .int x4), (5, .int x5)] := hl
  have hS : va_S (AE G [83] s.heap.size) s.heap s.heap [] := va_S.rf
  have n_0 : (0 : Int32).toInt = 0 := rfl
  have n_1 : (1 : Int32).toInt = 1 := rfl
  have n_2 : (2 : Int32).toInt = 2 := rfl
  have n_6 : (6 : Int32).toInt = 6 := rfl
  have n_11 : (11 : Int32).toInt = 11 := rfl
  have n_12 : (12 : Int32).toInt = 12 := rfl
  have n_13 : (13 : Int32).toInt = 13 := rfl
  have n_14 : (14 : Int32).toInt = 14 := rfl
  have n_15 : (15 : Int32).toInt = 15 := rfl
  have n_16 : (16 : Int32).toInt = 16 := rfl
  have n_17 : (17 : Int32).toInt = 17 := rfl
  have n_18 : (18 : Int32).toInt = 18 := rfl
  have n_19 : (19 : Int32).toInt = 19 := rfl
  have bsz := ty_fi (x := sz) (k := 0) esz hT ga1 rg_1 rfl
  have f0_s_hq : ∀ j : Nat, fI s.heap hq j = fI s.heap hq j := fun _ => rfl
  refine lv_aload_n hx hb dX6_seeSlice_0 rfl (lv_at hl 0 rfl) ?_
  refine x_gr C hT (ci := 6) (k := 0) rfl inX6 (by decide) wF_X6_9 ga0 rg_82 rfl dX6_seeSlice_1 (fun q625 eq625 gq625 => ?_)
  have uq625 : uq = q625 := (euq).trans eq625.symm
  subst uq625
  refine lv_bipush (v := 11) hx hb dX6_seeSlice_4 (by decide) ?_
  refine lv_iload_n hx hb dX6_seeSlice_6 rfl (lv_at hl 2 rfl) ?_
  refine x_iast C hT hS guq rg_83 (by decide) (by decide) ⟨by have := i_rng x2; omega, by have := i_rng x2; omega⟩ (AE_in guq (by decide)) dX6_seeSlice_7 (fun H626 locsH626 hTH626 hSH626 wH626 => ?_)
  have f627 : ∀ j : Nat, fI H626 hq j = fI s.heap hq j := fun j => (Wr.neI wH626 (Or.inl (G_ne ghq guq (by decide)))).trans (f0_s_hq j)
  have m628 := euq.trans (Wr.neR wH626 (Or.inl (G_ne ga0 guq (by decide)))).symm
  have m629 := ehq.trans (Wr.neR wH626 (Or.inl (G_ne ga1 guq (by decide)))).symm
  have m630 := esz.trans (Wr.neI wH626 (Or.inl (G_ne ga1 guq (by decide)))).symm
  have m631 := Wr.I wH626
  have m631 := m631.symm
  refine lv_aload_n hx hb dX6_seeSlice_8 rfl (lv_at hl 0 rfl) ?_
  refine x_gr C hTH626 (ci := 6) (k := 0) rfl inX6 (by decide) wF_X6_9 ga0 rg_82 rfl dX6_seeSlice_9 (fun q632 eq632 gq632 => ?_)
  have uq632 : uq = q632 := (m628).trans eq632.symm
  subst uq632
  refine lv_bipush (v := 12) hx hb dX6_seeSlice_12 (by decide) ?_
  refine lv_aload_n hx hb dX6_seeSlice_14 rfl (lv_at hl 1 rfl) ?_
  refine x_gi C hTH626 (ci := 0) (k := 0) rfl inX0 (by decide) wF_X6_18 ga1 rg_1 rfl dX6_seeSlice_15 (fun x633 ex633 bx633 => ?_)
  have ux633 : sz = x633 := (m630).trans ex633.symm
  subst ux633
  refine x_iast C hTH626 hSH626 guq rg_83 (by decide) (by decide) ⟨by have := i_rng sz; omega, by have := i_rng sz; omega⟩ (AE_in guq (by decide)) dX6_seeSlice_18 (fun H634 locsH634 hTH634 hSH634 wH634 => ?_)
  have f635 : ∀ j : Nat, fI H634 hq j = fI s.heap hq j := fun j => (Wr.neI wH634 (Or.inl (G_ne ghq guq (by decide)))).trans (f627 j)
  have m636 := m628.trans (Wr.neR wH634 (Or.inl (G_ne ga0 guq (by decide)))).symm
  have m637 := m629.trans (Wr.neR wH634 (Or.inl (G_ne ga1 guq (by decide)))).symm
  have m638 := m630.trans (Wr.neI wH634 (Or.inl (G_ne ga1 guq (by decide)))).symm
  have m639 := m631.trans (Wr.neI wH634 (Or.inr (by decide))).symm
  have m640 := Wr.I wH634
  have m640 := m640.symm
  refine lv_aload_n hx hb dX6_seeSlice_19 rfl (lv_at hl 0 rfl) ?_
  refine x_gr C hTH634 (ci := 6) (k := 0) rfl inX6 (by decide) wF_X6_9 ga0 rg_82 rfl dX6_seeSlice_20 (fun q641 eq641 gq641 => ?_)
  have uq641 : uq = q641 := (m636).trans eq641.symm
  subst uq641
  refine lv_bipush (v := 13) hx hb dX6_seeSlice_23 (by decide) ?_
  refine lv_iconst (v := 2) hx hb dX6_seeSlice_25 (by decide) ?_
  refine lv_iload_n hx hb dX6_seeSlice_26 rfl (lv_at hl 2 rfl) ?_
  refine lv_imul hx hb dX6_seeSlice_27 ?_
  refine lv_topi (fun x642 ex642 => ?_)
  have tx642 := i_mul ex642 (by rw [n_2]; omega)
  rw [n_2] at tx642
  refine lv_iconst (v := 1) hx hb dX6_seeSlice_28 (by decide) ?_
  refine lv_iadd hx hb dX6_seeSlice_29 ?_
  refine lv_topi (fun x643 ex643 => ?_)
  have tx643 := i_add ex643 (by omega)
  refine lv_aload_n hx hb dX6_seeSlice_30 rfl (lv_at hl 1 rfl) ?_
  refine x_gi C hTH634 (ci := 0) (k := 0) rfl inX0 (by decide) wF_X6_18 ga1 rg_1 rfl dX6_seeSlice_31 (fun x644 ex644 bx644 => ?_)
  have ux644 : sz = x644 := (m638).trans ex644.symm
  subst ux644
  refine lv_isub hx hb dX6_seeSlice_34 ?_
  refine lv_topi (fun x645 ex645 => ?_)
  have tx645 := i_sub ex645 (by omega)
  refine va_mabs hx hb (hml.trans hl.1.symm) hown (hts _ wM_X6_24) (hts _ wST_J9_abs_0f7a4) (hts _ wIN_J9) (hts _ wCD_J9_abs_0f7a4) (by decide) (Nat.le_of_ble_eq_true rfl) (by decide) (by decide) dX6_seeSlice_35 ?_
  refine lv_topi (fun x646 ex646 => ?_)
  have tx646 := i_abs ex646 (by omega)
  refine x_iast C hTH634 hSH634 guq rg_83 (by decide) (by decide) ⟨by have := i_rng x646; omega, by have := i_rng x646; omega⟩ (AE_in guq (by decide)) dX6_seeSlice_38 (fun H647 locsH647 hTH647 hSH647 wH647 => ?_)
  have f648 : ∀ j : Nat, fI H647 hq j = fI s.heap hq j := fun j => (Wr.neI wH647 (Or.inl (G_ne ghq guq (by decide)))).trans (f635 j)
  have m649 := m636.trans (Wr.neR wH647 (Or.inl (G_ne ga0 guq (by decide)))).symm
  have m650 := m637.trans (Wr.neR wH647 (Or.inl (G_ne ga1 guq (by decide)))).symm
  have m651 := m638.trans (Wr.neI wH647 (Or.inl (G_ne ga1 guq (by decide)))).symm
  have m652 := m639.trans (Wr.neI wH647 (Or.inr (by decide))).symm
  have m653 := m640.trans (Wr.neI wH647 (Or.inr (by decide))).symm
  have m654 := Wr.I wH647
  have m654 := m654.symm
  refine lv_aload_n hx hb dX6_seeSlice_39 rfl (lv_at hl 0 rfl) ?_
  refine x_gr C hTH647 (ci := 6) (k := 0) rfl inX6 (by decide) wF_X6_9 ga0 rg_82 rfl dX6_seeSlice_40 (fun q655 eq655 gq655 => ?_)
  have uq655 : uq = q655 := (m649).trans eq655.symm
  subst uq655
  refine lv_bipush (v := 14) hx hb dX6_seeSlice_43 (by decide) ?_
  refine lv_iload_n hx hb dX6_seeSlice_45 rfl (lv_at hl 2 rfl) ?_
  refine lv_aload_n hx hb dX6_seeSlice_46 rfl (lv_at hl 1 rfl) ?_
  refine x_gi C hTH647 (ci := 0) (k := 0) rfl inX0 (by decide) wF_X6_18 ga1 rg_1 rfl dX6_seeSlice_47 (fun x656 ex656 bx656 => ?_)
  have ux656 : sz = x656 := (m651).trans ex656.symm
  subst ux656
  refine lv_iconst (v := 1) hx hb dX6_seeSlice_50 (by decide) ?_
  refine lv_isub hx hb dX6_seeSlice_51 ?_
  refine lv_topi (fun x657 ex657 => ?_)
  have tx657 := i_sub ex657 (by omega)
  refine lv_iload_n hx hb dX6_seeSlice_52 rfl (lv_at hl 2 rfl) ?_
  refine lv_isub hx hb dX6_seeSlice_53 ?_
  refine lv_topi (fun x658 ex658 => ?_)
  have tx658 := i_sub ex658 (by omega)
  refine va_mmin hx hb (hml.trans hl.1.symm) hown (hts _ wM_X6_30) (hts _ wST_J9_min_7cf53) (hts _ wIN_J9) (hts _ wCD_J9_min_7cf53) (by decide) (Nat.le_of_ble_eq_true rfl) (by decide) (by decide) dX6_seeSlice_54 ?_
  refine lv_topi (fun x659 ex659 => ?_)
  have tx659 := i_min ex659
  refine x_iast C hTH647 hSH647 guq rg_83 (by decide) (by decide) ⟨by have := i_rng x659; omega, by have := i_rng x659; omega⟩ (AE_in guq (by decide)) dX6_seeSlice_57 (fun H660 locsH660 hTH660 hSH660 wH660 => ?_)
  have f661 : ∀ j : Nat, fI H660 hq j = fI s.heap hq j := fun j => (Wr.neI wH660 (Or.inl (G_ne ghq guq (by decide)))).trans (f648 j)
  have m662 := m649.trans (Wr.neR wH660 (Or.inl (G_ne ga0 guq (by decide)))).symm
  have m663 := m650.trans (Wr.neR wH660 (Or.inl (G_ne ga1 guq (by decide)))).symm
  have m664 := m651.trans (Wr.neI wH660 (Or.inl (G_ne ga1 guq (by decide)))).symm
  have m665 := m652.trans (Wr.neI wH660 (Or.inr (by decide))).symm
  have m666 := m653.trans (Wr.neI wH660 (Or.inr (by decide))).symm
  have m667 := m654.trans (Wr.neI wH660 (Or.inr (by decide))).symm
  have m668 := Wr.I wH660
  have m668 := m668.symm
  refine lv_aload_n hx hb dX6_seeSlice_58 rfl (lv_at hl 0 rfl) ?_
  refine x_gr C hTH660 (ci := 6) (k := 0) rfl inX6 (by decide) wF_X6_9 ga0 rg_82 rfl dX6_seeSlice_59 (fun q669 eq669 gq669 => ?_)
  have uq669 : uq = q669 := (m662).trans eq669.symm
  subst uq669
  refine lv_bipush (v := 15) hx hb dX6_seeSlice_62 (by decide) ?_
  refine lv_iload_n hx hb dX6_seeSlice_64 rfl (lv_at hl 3 rfl) ?_
  refine x_iast C hTH660 hSH660 guq rg_83 (by decide) (by decide) ⟨by have := i_rng x3; omega, by have := i_rng x3; omega⟩ (AE_in guq (by decide)) dX6_seeSlice_65 (fun H670 locsH670 hTH670 hSH670 wH670 => ?_)
  have f671 : ∀ j : Nat, fI H670 hq j = fI s.heap hq j := fun j => (Wr.neI wH670 (Or.inl (G_ne ghq guq (by decide)))).trans (f661 j)
  have m672 := m662.trans (Wr.neR wH670 (Or.inl (G_ne ga0 guq (by decide)))).symm
  have m673 := m663.trans (Wr.neR wH670 (Or.inl (G_ne ga1 guq (by decide)))).symm
  have m674 := m664.trans (Wr.neI wH670 (Or.inl (G_ne ga1 guq (by decide)))).symm
  have m675 := m665.trans (Wr.neI wH670 (Or.inr (by decide))).symm
  have m676 := m666.trans (Wr.neI wH670 (Or.inr (by decide))).symm
  have m677 := m667.trans (Wr.neI wH670 (Or.inr (by decide))).symm
  have m678 := m668.trans (Wr.neI wH670 (Or.inr (by decide))).symm
  have m679 := Wr.I wH670
  have m679 := m679.symm
  refine lv_aload_n hx hb dX6_seeSlice_66 rfl (lv_at hl 0 rfl) ?_
  refine x_gr C hTH670 (ci := 6) (k := 0) rfl inX6 (by decide) wF_X6_9 ga0 rg_82 rfl dX6_seeSlice_67 (fun q680 eq680 gq680 => ?_)
  have uq680 : uq = q680 := (m672).trans eq680.symm
  subst uq680
  refine lv_bipush (v := 16) hx hb dX6_seeSlice_70 (by decide) ?_
  refine lv_iload hx hb dX6_seeSlice_72 (lv_at hl 4 rfl) ?_
  refine x_iast C hTH670 hSH670 guq rg_83 (by decide) (by decide) ⟨by have := i_rng x4; omega, by have := i_rng x4; omega⟩ (AE_in guq (by decide)) dX6_seeSlice_74 (fun H681 locsH681 hTH681 hSH681 wH681 => ?_)
  have f682 : ∀ j : Nat, fI H681 hq j = fI s.heap hq j := fun j => (Wr.neI wH681 (Or.inl (G_ne ghq guq (by decide)))).trans (f671 j)
  have m683 := m672.trans (Wr.neR wH681 (Or.inl (G_ne ga0 guq (by decide)))).symm
  have m684 := m673.trans (Wr.neR wH681 (Or.inl (G_ne ga1 guq (by decide)))).symm
  have m685 := m674.trans (Wr.neI wH681 (Or.inl (G_ne ga1 guq (by decide)))).symm
  have m686 := m675.trans (Wr.neI wH681 (Or.inr (by decide))).symm
  have m687 := m676.trans (Wr.neI wH681 (Or.inr (by decide))).symm
  have m688 := m677.trans (Wr.neI wH681 (Or.inr (by decide))).symm
  have m689 := m678.trans (Wr.neI wH681 (Or.inr (by decide))).symm
  have m690 := m679.trans (Wr.neI wH681 (Or.inr (by decide))).symm
  have m691 := Wr.I wH681
  have m691 := m691.symm
  refine lv_aload_n hx hb dX6_seeSlice_75 rfl (lv_at hl 0 rfl) ?_
  refine x_gr C hTH681 (ci := 6) (k := 0) rfl inX6 (by decide) wF_X6_9 ga0 rg_82 rfl dX6_seeSlice_76 (fun q692 eq692 gq692 => ?_)
  have uq692 : uq = q692 := (m683).trans eq692.symm
  subst uq692
  refine lv_bipush (v := 17) hx hb dX6_seeSlice_79 (by decide) ?_
  refine lv_aload_n hx hb dX6_seeSlice_81 rfl (lv_at hl 1 rfl) ?_
  refine x_gr C hTH681 (ci := 0) (k := 3) rfl inX0 (by decide) wF_X6_34 ga1 rg_1 rfl dX6_seeSlice_82 (fun q693 eq693 gq693 => ?_)
  have uq693 : hq = q693 := (m684).trans eq693.symm
  subst uq693
  refine lv_iload_n hx hb dX6_seeSlice_85 rfl (lv_at hl 2 rfl) ?_
  refine x_ai C hTH681 ghq rg_4 ⟨by omega, by show _ < ((16 : Nat) : Int); omega⟩ dX6_seeSlice_86 (fun x694 ex694 bx694 => ?_)
  refine x_iast C hTH681 hSH681 guq rg_83 (by decide) (by decide) ⟨by have := i_rng x694; omega, by have := i_rng x694; omega⟩ (AE_in guq (by decide)) dX6_seeSlice_87 (fun H695 locsH695 hTH695 hSH695 wH695 => ?_)
  have f696 : ∀ j : Nat, fI H695 hq j = fI s.heap hq j := fun j => (Wr.neI wH695 (Or.inl (G_ne ghq guq (by decide)))).trans (f682 j)
  have m697 := m683.trans (Wr.neR wH695 (Or.inl (G_ne ga0 guq (by decide)))).symm
  have m698 := m684.trans (Wr.neR wH695 (Or.inl (G_ne ga1 guq (by decide)))).symm
  have m699 := m685.trans (Wr.neI wH695 (Or.inl (G_ne ga1 guq (by decide)))).symm
  have m700 := m686.trans (Wr.neI wH695 (Or.inr (by decide))).symm
  have m701 := m687.trans (Wr.neI wH695 (Or.inr (by decide))).symm
  have m702 := m688.trans (Wr.neI wH695 (Or.inr (by decide))).symm
  have m703 := m689.trans (Wr.neI wH695 (Or.inr (by decide))).symm
  have m704 := m690.trans (Wr.neI wH695 (Or.inr (by decide))).symm
  have m705 := m691.trans (Wr.neI wH695 (Or.inr (by decide))).symm
  have m706 := ex694.trans (Wr.neI wH695 (Or.inl (G_ne ghq guq (by decide)))).symm
  have m707 := Wr.I wH695
  have m707 := m707.symm
  refine lv_aload_n hx hb dX6_seeSlice_88 rfl (lv_at hl 0 rfl) ?_
  refine x_gr C hTH695 (ci := 6) (k := 0) rfl inX6 (by decide) wF_X6_9 ga0 rg_82 rfl dX6_seeSlice_89 (fun q708 eq708 gq708 => ?_)
  have uq708 : uq = q708 := (m697).trans eq708.symm
  subst uq708
  refine lv_bipush (v := 6) hx hb dX6_seeSlice_92 (by decide) ?_
  refine lv_iload hx hb dX6_seeSlice_94 (lv_at hl 5 rfl) ?_
  refine x_iast C hTH695 hSH695 guq rg_83 (by decide) (by decide) ⟨by have := i_rng x5; omega, by have := i_rng x5; omega⟩ (AE_in guq (by decide)) dX6_seeSlice_96 (fun H709 locsH709 hTH709 hSH709 wH709 => ?_)
  have f710 : ∀ j : Nat, fI H709 hq j = fI s.heap hq j := fun j => (Wr.neI wH709 (Or.inl (G_ne ghq guq (by decide)))).trans (f696 j)
  have m711 := m697.trans (Wr.neR wH709 (Or.inl (G_ne ga0 guq (by decide)))).symm
  have m712 := m698.trans (Wr.neR wH709 (Or.inl (G_ne ga1 guq (by decide)))).symm
  have m713 := m699.trans (Wr.neI wH709 (Or.inl (G_ne ga1 guq (by decide)))).symm
  have m714 := m700.trans (Wr.neI wH709 (Or.inr (by decide))).symm
  have m715 := m701.trans (Wr.neI wH709 (Or.inr (by decide))).symm
  have m716 := m702.trans (Wr.neI wH709 (Or.inr (by decide))).symm
  have m717 := m703.trans (Wr.neI wH709 (Or.inr (by decide))).symm
  have m718 := m704.trans (Wr.neI wH709 (Or.inr (by decide))).symm
  have m719 := m705.trans (Wr.neI wH709 (Or.inr (by decide))).symm
  have m720 := m706.trans (Wr.neI wH709 (Or.inl (G_ne ghq guq (by decide)))).symm
  have m721 := m707.trans (Wr.neI wH709 (Or.inr (by decide))).symm
  have m722 := Wr.I wH709
  have m722 := m722.symm
  refine lv_aload_n hx hb dX6_seeSlice_97 rfl (lv_at hl 0 rfl) ?_
  refine x_gr C hTH709 (ci := 6) (k := 0) rfl inX6 (by decide) wF_X6_9 ga0 rg_82 rfl dX6_seeSlice_98 (fun q723 eq723 gq723 => ?_)
  have uq723 : uq = q723 := (m711).trans eq723.symm
  subst uq723
  refine lv_bipush (v := 18) hx hb dX6_seeSlice_101 (by decide) ?_
  refine lv_iconst (v := 0) hx hb dX6_seeSlice_103 (by decide) ?_
  refine x_iast C hTH709 hSH709 guq rg_83 (by decide) (by decide) (by decide) (AE_in guq (by decide)) dX6_seeSlice_104 (fun H724 locsH724 hTH724 hSH724 wH724 => ?_)
  have f725 : ∀ j : Nat, fI H724 hq j = fI s.heap hq j := fun j => (Wr.neI wH724 (Or.inl (G_ne ghq guq (by decide)))).trans (f710 j)
  have m726 := m711.trans (Wr.neR wH724 (Or.inl (G_ne ga0 guq (by decide)))).symm
  have m727 := m712.trans (Wr.neR wH724 (Or.inl (G_ne ga1 guq (by decide)))).symm
  have m728 := m713.trans (Wr.neI wH724 (Or.inl (G_ne ga1 guq (by decide)))).symm
  have m729 := m714.trans (Wr.neI wH724 (Or.inr (by decide))).symm
  have m730 := m715.trans (Wr.neI wH724 (Or.inr (by decide))).symm
  have m731 := m716.trans (Wr.neI wH724 (Or.inr (by decide))).symm
  have m732 := m717.trans (Wr.neI wH724 (Or.inr (by decide))).symm
  have m733 := m718.trans (Wr.neI wH724 (Or.inr (by decide))).symm
  have m734 := m719.trans (Wr.neI wH724 (Or.inr (by decide))).symm
  have m735 := m720.trans (Wr.neI wH724 (Or.inl (G_ne ghq guq (by decide)))).symm
  have m736 := m721.trans (Wr.neI wH724 (Or.inr (by decide))).symm
  have m737 := m722.trans (Wr.neI wH724 (Or.inr (by decide))).symm
  have m738 := Wr.I wH724
  refine lv_aload_n hx hb dX6_seeSlice_105 rfl (lv_at hl 0 rfl) ?_
  refine x_gr C hTH724 (ci := 6) (k := 0) rfl inX6 (by decide) wF_X6_9 ga0 rg_82 rfl dX6_seeSlice_106 (fun q739 eq739 gq739 => ?_)
  have uq739 : uq = q739 := (m726).trans eq739.symm
  subst uq739
  refine lv_bipush (v := 19) hx hb dX6_seeSlice_109 (by decide) ?_
  refine lv_iconst (v := 0) hx hb dX6_seeSlice_111 (by decide) ?_
  refine x_iast C hTH724 hSH724 guq rg_83 (by decide) (by decide) (by decide) (AE_in guq (by decide)) dX6_seeSlice_112 (fun H740 locsH740 hTH740 hSH740 wH740 => ?_)
  have f741 : ∀ j : Nat, fI H740 hq j = fI s.heap hq j := fun j => (Wr.neI wH740 (Or.inl (G_ne ghq guq (by decide)))).trans (f725 j)
  have m742 := m726.trans (Wr.neR wH740 (Or.inl (G_ne ga0 guq (by decide)))).symm
  have m743 := m727.trans (Wr.neR wH740 (Or.inl (G_ne ga1 guq (by decide)))).symm
  have m744 := m728.trans (Wr.neI wH740 (Or.inl (G_ne ga1 guq (by decide)))).symm
  have m745 := m729.trans (Wr.neI wH740 (Or.inr (by decide))).symm
  have m746 := m730.trans (Wr.neI wH740 (Or.inr (by decide))).symm
  have m747 := m731.trans (Wr.neI wH740 (Or.inr (by decide))).symm
  have m748 := m732.trans (Wr.neI wH740 (Or.inr (by decide))).symm
  have m749 := m733.trans (Wr.neI wH740 (Or.inr (by decide))).symm
  have m750 := m734.trans (Wr.neI wH740 (Or.inr (by decide))).symm
  have m751 := m735.trans (Wr.neI wH740 (Or.inl (G_ne ghq guq (by decide)))).symm
  have m752 := m736.trans (Wr.neI wH740 (Or.inr (by decide))).symm
  have m753 := m737.trans (Wr.neI wH740 (Or.inr (by decide))).symm
  have m754 := (Wr.neI wH740 (Or.inr (by decide))).trans m738
  have m755 := Wr.I wH740
  exact x_vret C hQ dX6_seeSlice_113 hSH740 (by decide) (by decide) (⟨rfl, ⟨(by show (fI _ uq ((11 : Int32).toNatClampNeg)).toInt = x2.toInt; rw [← m745]), (by show (fI _ uq ((12 : Int32).toNatClampNeg)).toInt = sz.toInt; rw [← m746]), (by show (0 ≤ 2 * x2.toInt + 1 - sz.toInt ∧ (fI _ uq ((13 : Int32).toNatClampNeg)).toInt = _) ∨ (2 * x2.toInt + 1 - sz.toInt < 0 ∧ (fI _ uq ((13 : Int32).toNatClampNeg)).toInt = _); rw [← m747]; omega), (by show (x2.toInt ≤ sz.toInt - 1 - x2.toInt ∧ (fI _ uq ((14 : Int32).toNatClampNeg)).toInt = _) ∨ (sz.toInt - 1 - x2.toInt ≤ x2.toInt ∧ (fI _ uq ((14 : Int32).toNatClampNeg)).toInt = _); rw [← m748]; omega), (by show (fI _ uq ((15 : Int32).toNatClampNeg)).toInt = x3.toInt; rw [← m749]), (by show (fI _ uq ((16 : Int32).toNatClampNeg)).toInt = x4.toInt; rw [← m750]), (by show (fI _ uq ((17 : Int32).toNatClampNeg)).toInt = _; rw [← m752, ex694, f682]), (by show (fI _ uq ((6 : Int32).toNatClampNeg)).toInt = x5.toInt; rw [← m753]), (by show (fI _ uq ((18 : Int32).toNatClampNeg)).toInt = 0; rw [m754]; rfl), (by show (fI _ uq ((19 : Int32).toNatClampNeg)).toInt = 0; rw [m755]; rfl)⟩, hTH740⟩)

set_option maxHeartbeats 4000000 in
set_option maxRecDepth 100000 in
theorem a_X6_seeBar_v (l : Launch) (K : KE) (G : Nat → Option Nat) (H : Heap) {a0 : Nat} (x1 : Int32) (x2 : Int32) (x3 : Int32) (x4 : Int32) {uq : Nat} (hT : TY K G H) (ga0 : G a0 = some 82) (guq : G uq = some 83) (euq : uq = fR H a0 (K.1.2 6 0)) : MX l K yX6_seeBar cX6_seeBar 5 none 0 0 0 0 [.ref a0, .int x1, .int x2, .int x3, .int x4] H (AE G [83] H.size) (fun v H1 => v = none ∧ (SBU (fun j => fI H1 uq j) x1.toInt x2.toInt x3.toInt x4.toInt) ∧ TY K G H1) := by
  refine MX.of (by decide +kernel) (Nat.le_of_ble_eq_true rfl) ?_
  intro p e s m below meth c ls Q C hH hl hQ
  subst hH
  have C : CX p K s m _ meth c RX6 cX6_seeBar 5 none "seeBar" := C
  obtain ⟨hx, hb, hml, hown, hts, hKT, hr, hlocks, hnm⟩ := id C
  have hl : lv_has ls 5 [(0, .ref a0), (1, .int x1), (2, .int x2), (3, .int x3), (4, .int x4)] := hl
  have hS : va_S (AE G [83] s.heap.size) s.heap s.heap [] := va_S.rf
  have n_20 : (20 : Int32).toInt = 20 := rfl
  have n_21 : (21 : Int32).toInt = 21 := rfl
  have n_22 : (22 : Int32).toInt = 22 := rfl
  have n_23 : (23 : Int32).toInt = 23 := rfl
  refine lv_aload_n hx hb dX6_seeBar_0 rfl (lv_at hl 0 rfl) ?_
  refine x_gr C hT (ci := 6) (k := 0) rfl inX6 (by decide) wF_X6_9 ga0 rg_82 rfl dX6_seeBar_1 (fun q189 eq189 gq189 => ?_)
  have uq189 : uq = q189 := (euq).trans eq189.symm
  subst uq189
  refine lv_bipush (v := 20) hx hb dX6_seeBar_4 (by decide) ?_
  refine lv_iload_n hx hb dX6_seeBar_6 rfl (lv_at hl 1 rfl) ?_
  refine x_iast C hT hS guq rg_83 (by decide) (by decide) ⟨by have := i_rng x1; omega, by have := i_rng x1; omega⟩ (AE_in guq (by decide)) dX6_seeBar_7 (fun H190 locsH190 hTH190 hSH190 wH190 => ?_)
  have m191 := euq.trans (Wr.neR wH190 (Or.inl (G_ne ga0 guq (by decide)))).symm
  have m192 := Wr.I wH190
  have m192 := m192.symm
  refine lv_aload_n hx hb dX6_seeBar_8 rfl (lv_at hl 0 rfl) ?_
  refine x_gr C hTH190 (ci := 6) (k := 0) rfl inX6 (by decide) wF_X6_9 ga0 rg_82 rfl dX6_seeBar_9 (fun q193 eq193 gq193 => ?_)
  have uq193 : uq = q193 := (m191).trans eq193.symm
  subst uq193
  refine lv_bipush (v := 21) hx hb dX6_seeBar_12 (by decide) ?_
  refine lv_iload_n hx hb dX6_seeBar_14 rfl (lv_at hl 2 rfl) ?_
  refine x_iast C hTH190 hSH190 guq rg_83 (by decide) (by decide) ⟨by have := i_rng x2; omega, by have := i_rng x2; omega⟩ (AE_in guq (by decide)) dX6_seeBar_15 (fun H194 locsH194 hTH194 hSH194 wH194 => ?_)
  have m195 := m191.trans (Wr.neR wH194 (Or.inl (G_ne ga0 guq (by decide)))).symm
  have m196 := m192.trans (Wr.neI wH194 (Or.inr (by decide))).symm
  have m197 := Wr.I wH194
  have m197 := m197.symm
  refine lv_aload_n hx hb dX6_seeBar_16 rfl (lv_at hl 0 rfl) ?_
  refine x_gr C hTH194 (ci := 6) (k := 0) rfl inX6 (by decide) wF_X6_9 ga0 rg_82 rfl dX6_seeBar_17 (fun q198 eq198 gq198 => ?_)
  have uq198 : uq = q198 := (m195).trans eq198.symm
  subst uq198
  refine lv_bipush (v := 22) hx hb dX6_seeBar_20 (by decide) ?_
  refine lv_iload_n hx hb dX6_seeBar_22 rfl (lv_at hl 3 rfl) ?_
  refine x_iast C hTH194 hSH194 guq rg_83 (by decide) (by decide) ⟨by have := i_rng x3; omega, by have := i_rng x3; omega⟩ (AE_in guq (by decide)) dX6_seeBar_23 (fun H199 locsH199 hTH199 hSH199 wH199 => ?_)
  have m200 := m195.trans (Wr.neR wH199 (Or.inl (G_ne ga0 guq (by decide)))).symm
  have m201 := m196.trans (Wr.neI wH199 (Or.inr (by decide))).symm
  have m202 := m197.trans (Wr.neI wH199 (Or.inr (by decide))).symm
  have m203 := Wr.I wH199
  have m203 := m203.symm
  refine lv_aload_n hx hb dX6_seeBar_24 rfl (lv_at hl 0 rfl) ?_
  refine x_gr C hTH199 (ci := 6) (k := 0) rfl inX6 (by decide) wF_X6_9 ga0 rg_82 rfl dX6_seeBar_25 (fun q204 eq204 gq204 => ?_)
  have uq204 : uq = q204 := (m200).trans eq204.symm
  subst uq204
  refine lv_bipush (v := 23) hx hb dX6_seeBar_28 (by decide) ?_
  refine lv_iload hx hb dX6_seeBar_30 (lv_at hl 4 rfl) ?_
  refine x_iast C hTH199 hSH199 guq rg_83 (by decide) (by decide) ⟨by have := i_rng x4; omega, by have := i_rng x4; omega⟩ (AE_in guq (by decide)) dX6_seeBar_32 (fun H205 locsH205 hTH205 hSH205 wH205 => ?_)
  have m206 := m200.trans (Wr.neR wH205 (Or.inl (G_ne ga0 guq (by decide)))).symm
  have m207 := m201.trans (Wr.neI wH205 (Or.inr (by decide))).symm
  have m208 := m202.trans (Wr.neI wH205 (Or.inr (by decide))).symm
  have m209 := m203.trans (Wr.neI wH205 (Or.inr (by decide))).symm
  have m210 := Wr.I wH205
  have m210 := m210.symm
  exact x_vret C hQ dX6_seeBar_33 hSH205 (by decide) (by decide) (⟨rfl, ⟨(by show (fI _ uq ((20 : Int32).toNatClampNeg)).toInt = x1.toInt; rw [← m207]), (by show (fI _ uq ((21 : Int32).toNatClampNeg)).toInt = x2.toInt; rw [← m208]), (by show (fI _ uq ((22 : Int32).toNatClampNeg)).toInt = x3.toInt; rw [← m209]), (by show (fI _ uq ((23 : Int32).toNatClampNeg)).toInt = x4.toInt; rw [← m210])⟩, hTH205⟩)

set_option maxHeartbeats 4000000 in
set_option maxRecDepth 100000 in
theorem a_X10_size_v (l : Launch) (K : KE) (G : Nat → Option Nat) (H : Heap) {a0 : Nat} (x1 : Int32) (hT : TY K G H) (ga0 : G a0 = some 112) (hx1 : (-2000000000) ≤ x1.toInt ∧ x1.toInt ≤ 2000000000) : MX l K yX10_size cX10_size 2 (some .int) 0 0 0 0 [.ref a0, .int x1] H (AE G [] H.size) (fun v H1 => ∃ (r : Int32), v = some (.int r) ∧ ((0 ≤ x1.toInt ∧ r.toInt = x1.toInt) ∨ (x1.toInt < 0 ∧ r.toInt = - x1.toInt)) ∧ TY K G H1) := by
  refine MX.of (by decide +kernel) (Nat.le_of_ble_eq_true rfl) ?_
  intro p e s m below meth c ls Q C hH hl hQ
  subst hH
  have C : CX p K s m _ meth c RX10 cX10_size 2 (some .int) "size" := C
  obtain ⟨hx, hb, hml, hown, hts, hKT, hr, hlocks, hnm⟩ := id C
  have hl : lv_has ls 2 [(0, .ref a0), (1, .int x1)] := hl
  have hS : va_S (AE G [] s.heap.size) s.heap s.heap [] := va_S.rf
  have n_0 : (0 : Int32).toInt = 0 := rfl
  have hap : ∀ x y, x < 74 → y < 74 → x ≠ y → K.1.2 10 x ≠ K.1.2 10 y := x_apart hKT hts inX10 tyX10 tyX10_ok nmX10 rfl
  refine lv_iload_n hx hb dX10_size_0 rfl (lv_at hl 1 rfl) ?_
  refine lv_if_ge (tgt := 9) hx hb dX10_size_1 (by decide) (fun c113 => ?_) (fun c113 => ?_)
  · have k114 := i_le c113
    refine lv_iload_n hx hb dX10_size_9 rfl (lv_at hl 1 rfl) ?_
    exact x_iret C hQ dX10_size_10 hS (by decide) (by decide) (⟨x1, rfl, by omega, hT⟩)
  · have k114 := i_nle c113
    refine lv_iload_n hx hb dX10_size_4 rfl (lv_at hl 1 rfl) ?_
    refine lv_ineg hx hb dX10_size_5 ?_
    refine lv_topi (fun x115 ex115 => ?_)
    have tx115 := i_neg ex115 (by omega)
    refine lv_goto (tgt := 10) hx hb dX10_size_6 (by decide) ?_
    exact x_iret C hQ dX10_size_10 hS (by decide) (by decide) (⟨x115, rfl, by omega, hT⟩)

set_option maxHeartbeats 4000000 in
set_option maxRecDepth 100000 in
theorem a_X10_asks_v (l : Launch) (K : KE) (G : Nat → Option Nat) (H : Heap) {a0 : Nat} (x1 : Int32) (x2 : Int32) (x3 : Int32) (x4 : Int32) (x5 : Int32) (x6 : Int32) {uq : Nat} (hT : TY K G H) (ga0 : G a0 = some 112) (hx1 : 0 ≤ x1.toInt ∧ x1.toInt ≤ 16) (hx2 : 0 ≤ x2.toInt ∧ x2.toInt ≤ 15) (guq : G uq = some 139) (euq : uq = fR H a0 (K.1.2 10 43)) : MX l K yX10_asks cX10_asks 8 none 1 21 0 0 [.ref a0, .int x1, .int x2, .int x3, .int x4, .int x5, .int x6] H (AE G [139] H.size) (fun v H1 => v = none ∧ (SEA (fun j => fI H1 uq j) x1.toInt x2.toInt x3.toInt x4.toInt x5.toInt x6.toInt) ∧ TY K G H1) := by
  refine MX.of (by decide +kernel) (Nat.le_of_ble_eq_true rfl) ?_
  intro p e s m below meth c ls Q C hH hl hQ
  subst hH
  have C : CX p K s m _ meth c RX10 cX10_asks 8 none "asks" := C
  obtain ⟨hx, hb, hml, hown, hts, hKT, hr, hlocks, hnm⟩ := id C
  have hl : lv_has ls 8 [(0, .ref a0), (1, .int x1), (2, .int x2), (3, .int x3), (4, .int x4), (5, .int x5), (6, .int x6)] := hl
  have hS : va_S (AE G [139] s.heap.size) s.heap s.heap [] := va_S.rf
  have n_0 : (0 : Int32).toInt = 0 := rfl
  have n_1 : (1 : Int32).toInt = 1 := rfl
  have n_2 : (2 : Int32).toInt = 2 := rfl
  have n_3 : (3 : Int32).toInt = 3 := rfl
  have n_4 : (4 : Int32).toInt = 4 := rfl
  have n_5 : (5 : Int32).toInt = 5 := rfl
  have n_6 : (6 : Int32).toInt = 6 := rfl
  have n_7 : (7 : Int32).toInt = 7 := rfl
  have n_14 : (14 : Int32).toInt = 14 := rfl
  have hap : ∀ x y, x < 74 → y < 74 → x ≠ y → K.1.2 10 x ≠ K.1.2 10 y := x_apart hKT hts inX10 tyX10 tyX10_ok nmX10 rfl
  have J3 : ∀ (nf : Nat)  (ls762 : Array Slot) (H761 : Heap) (locsH761 : List Loc) (x764 : Int32), lv_has ls762 8 [(0, .ref a0), (1, .int x1), (2, .int x2), (3, .int x3), (4, .int x4), (5, .int x5), (6, .int x6), (7, .int x764)] → TY K G H761 → va_S (AE G [139] s.heap.size) s.heap H761 locsH761 → (0 ≤ x764.toInt ∧ x764.toInt ≤ 14) → (uq = fR H761 a0 (K.1.2 10 43)) → (14 - x764.toInt < (nf : Int)) → (∀ j : Nat, j < x764.toNatClampNeg → fI H761 uq j = 0) → W p l e ({ frames := 1, cells := 0, slots := 0, locals := 21 } : Room) s m (([.ref a0, .int x1, .int x2, .int x3, .int x4, .int x5, .int x6] : List Value).toArray) below meth c H761 locsH761 0 0 Q (F0 m 3 ls762 []) := by
    intro nf
    induction nf with
    | zero =>
      intro  ls762 H761 locsH761 x764 hl763 hTH761 hSH761 bx764 cy765_0 hm3 hz3
      exfalso
      omega
    | succ nf ih3 =>
      intro  ls762 H761 locsH761 x764 hl763 hTH761 hSH761 bx764 cy765_0 hm3 hz3
      refine lv_iload hx hb dX10_asks_3 (lv_at hl763 7 rfl) ?_
      refine lv_bipush (v := 14) hx hb dX10_asks_5 (by decide) ?_
      refine lv_icmp_ge (tgt := 24) hx hb dX10_asks_7 (by decide) (fun c766 => ?_) (fun c766 => ?_)
      · have k767 := i_le c766
        have cn_x764 := i_cl (x := x764) (by omega)
        have z768 : fI H761 uq ((8 : Int32).toNatClampNeg) = 0 := hz3 8 (by omega)
        have z769 : fI H761 uq ((9 : Int32).toNatClampNeg) = 0 := hz3 9 (by omega)
        refine lv_aload_n hx hb dX10_asks_24 rfl (lv_at hl763 0 rfl) ?_
        refine x_gr C hTH761 (ci := 10) (k := 43) rfl inX10 (by decide) wF_X10_95 ga0 rg_112 rfl dX10_asks_25 (fun q770 eq770 gq770 => ?_)
        have uq770 : uq = q770 := (cy765_0).trans eq770.symm
        subst uq770
        refine lv_iconst (v := 0) hx hb dX10_asks_28 (by decide) ?_
        refine lv_iload_n hx hb dX10_asks_29 rfl (lv_at hl763 2 rfl) ?_
        refine x_iast C hTH761 hSH761 guq rg_139 (by decide) (by decide) ⟨by have := i_rng x2; omega, by have := i_rng x2; omega⟩ (AE_in guq (by decide)) dX10_asks_30 (fun H771 locsH771 hTH771 hSH771 wH771 => ?_)
        have m772 := cy765_0.trans (Wr.neR wH771 (Or.inl (G_ne ga0 guq (by decide)))).symm
        have m773 := (Wr.neI wH771 (Or.inr (by decide))).trans z768
        have m774 := (Wr.neI wH771 (Or.inr (by decide))).trans z769
        have m775 := Wr.I wH771
        have m775 := m775.symm
        refine lv_aload_n hx hb dX10_asks_31 rfl (lv_at hl763 0 rfl) ?_
        refine x_gr C hTH771 (ci := 10) (k := 43) rfl inX10 (by decide) wF_X10_95 ga0 rg_112 rfl dX10_asks_32 (fun q776 eq776 gq776 => ?_)
        have uq776 : uq = q776 := (m772).trans eq776.symm
        subst uq776
        refine lv_iconst (v := 1) hx hb dX10_asks_35 (by decide) ?_
        refine lv_iload_n hx hb dX10_asks_36 rfl (lv_at hl763 1 rfl) ?_
        refine x_iast C hTH771 hSH771 guq rg_139 (by decide) (by decide) ⟨by have := i_rng x1; omega, by have := i_rng x1; omega⟩ (AE_in guq (by decide)) dX10_asks_37 (fun H777 locsH777 hTH777 hSH777 wH777 => ?_)
        have m778 := m772.trans (Wr.neR wH777 (Or.inl (G_ne ga0 guq (by decide)))).symm
        have m779 := (Wr.neI wH777 (Or.inr (by decide))).trans m773
        have m780 := (Wr.neI wH777 (Or.inr (by decide))).trans m774
        have m781 := m775.trans (Wr.neI wH777 (Or.inr (by decide))).symm
        have m782 := Wr.I wH777
        have m782 := m782.symm
        refine lv_aload_n hx hb dX10_asks_38 rfl (lv_at hl763 0 rfl) ?_
        refine x_gr C hTH777 (ci := 10) (k := 43) rfl inX10 (by decide) wF_X10_95 ga0 rg_112 rfl dX10_asks_39 (fun q783 eq783 gq783 => ?_)
        have uq783 : uq = q783 := (m778).trans eq783.symm
        subst uq783
        refine lv_iconst (v := 2) hx hb dX10_asks_42 (by decide) ?_
        refine lv_aload_n hx hb dX10_asks_43 rfl (lv_at hl763 0 rfl) ?_
        refine lv_iconst (v := 2) hx hb dX10_asks_44 (by decide) ?_
        refine lv_iload_n hx hb dX10_asks_45 rfl (lv_at hl763 2 rfl) ?_
        refine lv_imul hx hb dX10_asks_46 ?_
        refine lv_topi (fun x784 ex784 => ?_)
        have tx784 := i_mul ex784 (by rw [n_2]; omega)
        rw [n_2] at tx784
        refine lv_iconst (v := 1) hx hb dX10_asks_47 (by decide) ?_
        refine lv_iadd hx hb dX10_asks_48 ?_
        refine lv_topi (fun x785 ex785 => ?_)
        have tx785 := i_add ex785 (by omega)
        refine lv_iload_n hx hb dX10_asks_49 rfl (lv_at hl763 1 rfl) ?_
        refine lv_isub hx hb dX10_asks_50 ?_
        refine lv_topi (fun x786 ex786 => ?_)
        have tx786 := i_sub ex786 (by omega)
        refine x_V (As := [.int x786]) (rest := [.int 2, .ref uq]) C (a_X10_size_v l K G H777 (x786) hTH777 ga0 (by omega)) yo_X10_size wM_X10_309 ⟨⟨by decide, by decide⟩, by decide, by decide⟩ (x_rv C hTH777 (ci := 10) rfl ga0 rg_112) rfl hl763.1 rfl (Nat.le_of_ble_eq_true rfl) dX10_asks_51 hSH777 (AE_sub (fun _ _ => rfl) (by decide) hSH777.1) (fun vH787 H787 locsH787 pH787 zH787 kH787 hSH787 => ?_)
        obtain ⟨x788, hvH787, hrH787, hTH787⟩ := pH787
        subst hvH787
        have m789 := (m778).trans (fR_kept (x_lt hTH777 kH787 ga0 (by decide))).symm
        have m790 := (fI_kept (x_lt hTH777 kH787 guq (by decide))).trans m779
        have m791 := (fI_kept (x_lt hTH777 kH787 guq (by decide))).trans m780
        have m792 := (m781).trans (fI_kept (x_lt hTH777 kH787 guq (by decide))).symm
        have m793 := (m782).trans (fI_kept (x_lt hTH777 kH787 guq (by decide))).symm
        refine W.eq (g2 := F0 m 54 ls762 [.int x788, .int 2, .ref uq]) rfl ?_
        refine x_iast C hTH787 hSH787 guq rg_139 (by decide) (by decide) ⟨by have := i_rng x788; omega, by have := i_rng x788; omega⟩ (AE_in guq (by decide)) dX10_asks_54 (fun H794 locsH794 hTH794 hSH794 wH794 => ?_)
        have m795 := m789.trans (Wr.neR wH794 (Or.inl (G_ne ga0 guq (by decide)))).symm
        have m796 := (Wr.neI wH794 (Or.inr (by decide))).trans m790
        have m797 := (Wr.neI wH794 (Or.inr (by decide))).trans m791
        have m798 := m792.trans (Wr.neI wH794 (Or.inr (by decide))).symm
        have m799 := m793.trans (Wr.neI wH794 (Or.inr (by decide))).symm
        have m800 := Wr.I wH794
        have m800 := m800.symm
        refine lv_aload_n hx hb dX10_asks_55 rfl (lv_at hl763 0 rfl) ?_
        refine x_gr C hTH794 (ci := 10) (k := 43) rfl inX10 (by decide) wF_X10_95 ga0 rg_112 rfl dX10_asks_56 (fun q801 eq801 gq801 => ?_)
        have uq801 : uq = q801 := (m795).trans eq801.symm
        subst uq801
        refine lv_iconst (v := 3) hx hb dX10_asks_59 (by decide) ?_
        refine lv_iload_n hx hb dX10_asks_60 rfl (lv_at hl763 2 rfl) ?_
        refine lv_iload_n hx hb dX10_asks_61 rfl (lv_at hl763 1 rfl) ?_
        refine lv_iconst (v := 1) hx hb dX10_asks_62 (by decide) ?_
        refine lv_isub hx hb dX10_asks_63 ?_
        refine lv_topi (fun x802 ex802 => ?_)
        have tx802 := i_sub ex802 (by omega)
        refine lv_iload_n hx hb dX10_asks_64 rfl (lv_at hl763 2 rfl) ?_
        refine lv_isub hx hb dX10_asks_65 ?_
        refine lv_topi (fun x803 ex803 => ?_)
        have tx803 := i_sub ex803 (by omega)
        refine lv_icmp_ge (tgt := 73) hx hb dX10_asks_66 (by decide) (fun c804 => ?_) (fun c804 => ?_)
        · have k805 := i_le c804
          refine lv_iload_n hx hb dX10_asks_73 rfl (lv_at hl763 1 rfl) ?_
          refine lv_iconst (v := 1) hx hb dX10_asks_74 (by decide) ?_
          refine lv_isub hx hb dX10_asks_75 ?_
          refine lv_topi (fun x806 ex806 => ?_)
          have tx806 := i_sub ex806 (by omega)
          refine lv_iload_n hx hb dX10_asks_76 rfl (lv_at hl763 2 rfl) ?_
          refine lv_isub hx hb dX10_asks_77 ?_
          refine lv_topi (fun x807 ex807 => ?_)
          have tx807 := i_sub ex807 (by omega)
          refine x_iast C hTH794 hSH794 guq rg_139 (by decide) (by decide) ⟨by have := i_rng x807; omega, by have := i_rng x807; omega⟩ (AE_in guq (by decide)) dX10_asks_78 (fun H808 locsH808 hTH808 hSH808 wH808 => ?_)
          have m809 := m795.trans (Wr.neR wH808 (Or.inl (G_ne ga0 guq (by decide)))).symm
          have m810 := (Wr.neI wH808 (Or.inr (by decide))).trans m796
          have m811 := (Wr.neI wH808 (Or.inr (by decide))).trans m797
          have m812 := m798.trans (Wr.neI wH808 (Or.inr (by decide))).symm
          have m813 := m799.trans (Wr.neI wH808 (Or.inr (by decide))).symm
          have m814 := m800.trans (Wr.neI wH808 (Or.inr (by decide))).symm
          have m815 := Wr.I wH808
          have m815 := m815.symm
          refine lv_aload_n hx hb dX10_asks_79 rfl (lv_at hl763 0 rfl) ?_
          refine x_gr C hTH808 (ci := 10) (k := 43) rfl inX10 (by decide) wF_X10_95 ga0 rg_112 rfl dX10_asks_80 (fun q816 eq816 gq816 => ?_)
          have uq816 : uq = q816 := (m809).trans eq816.symm
          subst uq816
          refine lv_iconst (v := 4) hx hb dX10_asks_83 (by decide) ?_
          refine lv_iload_n hx hb dX10_asks_84 rfl (lv_at hl763 3 rfl) ?_
          refine x_iast C hTH808 hSH808 guq rg_139 (by decide) (by decide) ⟨by have := i_rng x3; omega, by have := i_rng x3; omega⟩ (AE_in guq (by decide)) dX10_asks_85 (fun H817 locsH817 hTH817 hSH817 wH817 => ?_)
          have m818 := m809.trans (Wr.neR wH817 (Or.inl (G_ne ga0 guq (by decide)))).symm
          have m819 := (Wr.neI wH817 (Or.inr (by decide))).trans m810
          have m820 := (Wr.neI wH817 (Or.inr (by decide))).trans m811
          have m821 := m812.trans (Wr.neI wH817 (Or.inr (by decide))).symm
          have m822 := m813.trans (Wr.neI wH817 (Or.inr (by decide))).symm
          have m823 := m814.trans (Wr.neI wH817 (Or.inr (by decide))).symm
          have m824 := m815.trans (Wr.neI wH817 (Or.inr (by decide))).symm
          have m825 := Wr.I wH817
          have m825 := m825.symm
          refine lv_aload_n hx hb dX10_asks_86 rfl (lv_at hl763 0 rfl) ?_
          refine x_gr C hTH817 (ci := 10) (k := 43) rfl inX10 (by decide) wF_X10_95 ga0 rg_112 rfl dX10_asks_87 (fun q826 eq826 gq826 => ?_)
          have uq826 : uq = q826 := (m818).trans eq826.symm
          subst uq826
          refine lv_iconst (v := 5) hx hb dX10_asks_90 (by decide) ?_
          refine lv_iload hx hb dX10_asks_91 (lv_at hl763 4 rfl) ?_
          refine x_iast C hTH817 hSH817 guq rg_139 (by decide) (by decide) ⟨by have := i_rng x4; omega, by have := i_rng x4; omega⟩ (AE_in guq (by decide)) dX10_asks_93 (fun H827 locsH827 hTH827 hSH827 wH827 => ?_)
          have m828 := m818.trans (Wr.neR wH827 (Or.inl (G_ne ga0 guq (by decide)))).symm
          have m829 := (Wr.neI wH827 (Or.inr (by decide))).trans m819
          have m830 := (Wr.neI wH827 (Or.inr (by decide))).trans m820
          have m831 := m821.trans (Wr.neI wH827 (Or.inr (by decide))).symm
          have m832 := m822.trans (Wr.neI wH827 (Or.inr (by decide))).symm
          have m833 := m823.trans (Wr.neI wH827 (Or.inr (by decide))).symm
          have m834 := m824.trans (Wr.neI wH827 (Or.inr (by decide))).symm
          have m835 := m825.trans (Wr.neI wH827 (Or.inr (by decide))).symm
          have m836 := Wr.I wH827
          have m836 := m836.symm
          refine lv_aload_n hx hb dX10_asks_94 rfl (lv_at hl763 0 rfl) ?_
          refine x_gr C hTH827 (ci := 10) (k := 43) rfl inX10 (by decide) wF_X10_95 ga0 rg_112 rfl dX10_asks_95 (fun q837 eq837 gq837 => ?_)
          have uq837 : uq = q837 := (m828).trans eq837.symm
          subst uq837
          refine lv_bipush (v := 6) hx hb dX10_asks_98 (by decide) ?_
          refine lv_iload hx hb dX10_asks_100 (lv_at hl763 5 rfl) ?_
          refine x_iast C hTH827 hSH827 guq rg_139 (by decide) (by decide) ⟨by have := i_rng x5; omega, by have := i_rng x5; omega⟩ (AE_in guq (by decide)) dX10_asks_102 (fun H838 locsH838 hTH838 hSH838 wH838 => ?_)
          have m839 := m828.trans (Wr.neR wH838 (Or.inl (G_ne ga0 guq (by decide)))).symm
          have m840 := (Wr.neI wH838 (Or.inr (by decide))).trans m829
          have m841 := (Wr.neI wH838 (Or.inr (by decide))).trans m830
          have m842 := m831.trans (Wr.neI wH838 (Or.inr (by decide))).symm
          have m843 := m832.trans (Wr.neI wH838 (Or.inr (by decide))).symm
          have m844 := m833.trans (Wr.neI wH838 (Or.inr (by decide))).symm
          have m845 := m834.trans (Wr.neI wH838 (Or.inr (by decide))).symm
          have m846 := m835.trans (Wr.neI wH838 (Or.inr (by decide))).symm
          have m847 := m836.trans (Wr.neI wH838 (Or.inr (by decide))).symm
          have m848 := Wr.I wH838
          have m848 := m848.symm
          refine lv_aload_n hx hb dX10_asks_103 rfl (lv_at hl763 0 rfl) ?_
          refine x_gr C hTH838 (ci := 10) (k := 43) rfl inX10 (by decide) wF_X10_95 ga0 rg_112 rfl dX10_asks_104 (fun q849 eq849 gq849 => ?_)
          have uq849 : uq = q849 := (m839).trans eq849.symm
          subst uq849
          refine lv_bipush (v := 7) hx hb dX10_asks_107 (by decide) ?_
          refine lv_iload hx hb dX10_asks_109 (lv_at hl763 6 rfl) ?_
          refine x_iast C hTH838 hSH838 guq rg_139 (by decide) (by decide) ⟨by have := i_rng x6; omega, by have := i_rng x6; omega⟩ (AE_in guq (by decide)) dX10_asks_111 (fun H850 locsH850 hTH850 hSH850 wH850 => ?_)
          have m851 := m839.trans (Wr.neR wH850 (Or.inl (G_ne ga0 guq (by decide)))).symm
          have m852 := (Wr.neI wH850 (Or.inr (by decide))).trans m840
          have m853 := (Wr.neI wH850 (Or.inr (by decide))).trans m841
          have m854 := m842.trans (Wr.neI wH850 (Or.inr (by decide))).symm
          have m855 := m843.trans (Wr.neI wH850 (Or.inr (by decide))).symm
          have m856 := m844.trans (Wr.neI wH850 (Or.inr (by decide))).symm
          have m857 := m845.trans (Wr.neI wH850 (Or.inr (by decide))).symm
          have m858 := m846.trans (Wr.neI wH850 (Or.inr (by decide))).symm
          have m859 := m847.trans (Wr.neI wH850 (Or.inr (by decide))).symm
          have m860 := m848.trans (Wr.neI wH850 (Or.inr (by decide))).symm
          have m861 := Wr.I wH850
          have m861 := m861.symm
          exact x_vret C hQ dX10_asks_112 hSH850 (by decide) (by decide) (⟨rfl, ⟨(by show (fI _ uq ((0 : Int32).toNatClampNeg)).toInt = x2.toInt; rw [← m854]), (by show (fI _ uq ((1 : Int32).toNatClampNeg)).toInt = x1.toInt; rw [← m855]), (by show (0 ≤ 2 * x2.toInt + 1 - x1.toInt ∧ (fI _ uq ((2 : Int32).toNatClampNeg)).toInt = _) ∨ (2 * x2.toInt + 1 - x1.toInt < 0 ∧ (fI _ uq ((2 : Int32).toNatClampNeg)).toInt = _); rw [← m856]; omega), (by show (x2.toInt ≤ x1.toInt - 1 - x2.toInt ∧ (fI _ uq ((3 : Int32).toNatClampNeg)).toInt = _) ∨ (x1.toInt - 1 - x2.toInt ≤ x2.toInt ∧ (fI _ uq ((3 : Int32).toNatClampNeg)).toInt = _); rw [← m857]; omega), (by show (fI _ uq ((4 : Int32).toNatClampNeg)).toInt = x3.toInt; rw [← m858]), (by show (fI _ uq ((5 : Int32).toNatClampNeg)).toInt = x4.toInt; rw [← m859]), (by show (fI _ uq ((6 : Int32).toNatClampNeg)).toInt = x5.toInt; rw [← m860]), (by show (fI _ uq ((7 : Int32).toNatClampNeg)).toInt = x6.toInt; rw [← m861]), (by show (fI _ uq ((8 : Int32).toNatClampNeg)).toInt = 0; rw [m852]; rfl), (by show (fI _ uq ((9 : Int32).toNatClampNeg)).toInt = 0; rw [m853]; rfl)⟩, hTH850⟩)
        · have k805 := i_nle c804
          refine lv_iload_n hx hb dX10_asks_69 rfl (lv_at hl763 2 rfl) ?_
          refine lv_goto (tgt := 78) hx hb dX10_asks_70 (by decide) ?_
          refine x_iast C hTH794 hSH794 guq rg_139 (by decide) (by decide) ⟨by have := i_rng x2; omega, by have := i_rng x2; omega⟩ (AE_in guq (by decide)) dX10_asks_78 (fun H862 locsH862 hTH862 hSH862 wH862 => ?_)
          have m863 := m795.trans (Wr.neR wH862 (Or.inl (G_ne ga0 guq (by decide)))).symm
          have m864 := (Wr.neI wH862 (Or.inr (by decide))).trans m796
          have m865 := (Wr.neI wH862 (Or.inr (by decide))).trans m797
          have m866 := m798.trans (Wr.neI wH862 (Or.inr (by decide))).symm
          have m867 := m799.trans (Wr.neI wH862 (Or.inr (by decide))).symm
          have m868 := m800.trans (Wr.neI wH862 (Or.inr (by decide))).symm
          have m869 := Wr.I wH862
          have m869 := m869.symm
          refine lv_aload_n hx hb dX10_asks_79 rfl (lv_at hl763 0 rfl) ?_
          refine x_gr C hTH862 (ci := 10) (k := 43) rfl inX10 (by decide) wF_X10_95 ga0 rg_112 rfl dX10_asks_80 (fun q870 eq870 gq870 => ?_)
          have uq870 : uq = q870 := (m863).trans eq870.symm
          subst uq870
          refine lv_iconst (v := 4) hx hb dX10_asks_83 (by decide) ?_
          refine lv_iload_n hx hb dX10_asks_84 rfl (lv_at hl763 3 rfl) ?_
          refine x_iast C hTH862 hSH862 guq rg_139 (by decide) (by decide) ⟨by have := i_rng x3; omega, by have := i_rng x3; omega⟩ (AE_in guq (by decide)) dX10_asks_85 (fun H871 locsH871 hTH871 hSH871 wH871 => ?_)
          have m872 := m863.trans (Wr.neR wH871 (Or.inl (G_ne ga0 guq (by decide)))).symm
          have m873 := (Wr.neI wH871 (Or.inr (by decide))).trans m864
          have m874 := (Wr.neI wH871 (Or.inr (by decide))).trans m865
          have m875 := m866.trans (Wr.neI wH871 (Or.inr (by decide))).symm
          have m876 := m867.trans (Wr.neI wH871 (Or.inr (by decide))).symm
          have m877 := m868.trans (Wr.neI wH871 (Or.inr (by decide))).symm
          have m878 := m869.trans (Wr.neI wH871 (Or.inr (by decide))).symm
          have m879 := Wr.I wH871
          have m879 := m879.symm
          refine lv_aload_n hx hb dX10_asks_86 rfl (lv_at hl763 0 rfl) ?_
          refine x_gr C hTH871 (ci := 10) (k := 43) rfl inX10 (by decide) wF_X10_95 ga0 rg_112 rfl dX10_asks_87 (fun q880 eq880 gq880 => ?_)
          have uq880 : uq = q880 := (m872).trans eq880.symm
          subst uq880
          refine lv_iconst (v := 5) hx hb dX10_asks_90 (by decide) ?_
          refine lv_iload hx hb dX10_asks_91 (lv_at hl763 4 rfl) ?_
          refine x_iast C hTH871 hSH871 guq rg_139 (by decide) (by decide) ⟨by have := i_rng x4; omega, by have := i_rng x4; omega⟩ (AE_in guq (by decide)) dX10_asks_93 (fun H881 locsH881 hTH881 hSH881 wH881 => ?_)
          have m882 := m872.trans (Wr.neR wH881 (Or.inl (G_ne ga0 guq (by decide)))).symm
          have m883 := (Wr.neI wH881 (Or.inr (by decide))).trans m873
          have m884 := (Wr.neI wH881 (Or.inr (by decide))).trans m874
          have m885 := m875.trans (Wr.neI wH881 (Or.inr (by decide))).symm
          have m886 := m876.trans (Wr.neI wH881 (Or.inr (by decide))).symm
          have m887 := m877.trans (Wr.neI wH881 (Or.inr (by decide))).symm
          have m888 := m878.trans (Wr.neI wH881 (Or.inr (by decide))).symm
          have m889 := m879.trans (Wr.neI wH881 (Or.inr (by decide))).symm
          have m890 := Wr.I wH881
          have m890 := m890.symm
          refine lv_aload_n hx hb dX10_asks_94 rfl (lv_at hl763 0 rfl) ?_
          refine x_gr C hTH881 (ci := 10) (k := 43) rfl inX10 (by decide) wF_X10_95 ga0 rg_112 rfl dX10_asks_95 (fun q891 eq891 gq891 => ?_)
          have uq891 : uq = q891 := (m882).trans eq891.symm
          subst uq891
          refine lv_bipush (v := 6) hx hb dX10_asks_98 (by decide) ?_
          refine lv_iload hx hb dX10_asks_100 (lv_at hl763 5 rfl) ?_
          refine x_iast C hTH881 hSH881 guq rg_139 (by decide) (by decide) ⟨by have := i_rng x5; omega, by have := i_rng x5; omega⟩ (AE_in guq (by decide)) dX10_asks_102 (fun H892 locsH892 hTH892 hSH892 wH892 => ?_)
          have m893 := m882.trans (Wr.neR wH892 (Or.inl (G_ne ga0 guq (by decide)))).symm
          have m894 := (Wr.neI wH892 (Or.inr (by decide))).trans m883
          have m895 := (Wr.neI wH892 (Or.inr (by decide))).trans m884
          have m896 := m885.trans (Wr.neI wH892 (Or.inr (by decide))).symm
          have m897 := m886.trans (Wr.neI wH892 (Or.inr (by decide))).symm
          have m898 := m887.trans (Wr.neI wH892 (Or.inr (by decide))).symm
          have m899 := m888.trans (Wr.neI wH892 (Or.inr (by decide))).symm
          have m900 := m889.trans (Wr.neI wH892 (Or.inr (by decide))).symm
          have m901 := m890.trans (Wr.neI wH892 (Or.inr (by decide))).symm
          have m902 := Wr.I wH892
          have m902 := m902.symm
          refine lv_aload_n hx hb dX10_asks_103 rfl (lv_at hl763 0 rfl) ?_
          refine x_gr C hTH892 (ci := 10) (k := 43) rfl inX10 (by decide) wF_X10_95 ga0 rg_112 rfl dX10_asks_104 (fun q903 eq903 gq903 => ?_)
          have uq903 : uq = q903 := (m893).trans eq903.symm
          subst uq903
          refine lv_bipush (v := 7) hx hb dX10_asks_107 (by decide) ?_
          refine lv_iload hx hb dX10_asks_109 (lv_at hl763 6 rfl) ?_
          refine x_iast C hTH892 hSH892 guq rg_139 (by decide) (by decide) ⟨by have := i_rng x6; omega, by have := i_rng x6; omega⟩ (AE_in guq (by decide)) dX10_asks_111 (fun H904 locsH904 hTH904 hSH904 wH904 => ?_)
          have m905 := m893.trans (Wr.neR wH904 (Or.inl (G_ne ga0 guq (by decide)))).symm
          have m906 := (Wr.neI wH904 (Or.inr (by decide))).trans m894
          have m907 := (Wr.neI wH904 (Or.inr (by decide))).trans m895
          have m908 := m896.trans (Wr.neI wH904 (Or.inr (by decide))).symm
          have m909 := m897.trans (Wr.neI wH904 (Or.inr (by decide))).symm
          have m910 := m898.trans (Wr.neI wH904 (Or.inr (by decide))).symm
          have m911 := m899.trans (Wr.neI wH904 (Or.inr (by decide))).symm
          have m912 := m900.trans (Wr.neI wH904 (Or.inr (by decide))).symm
          have m913 := m901.trans (Wr.neI wH904 (Or.inr (by decide))).symm
          have m914 := m902.trans (Wr.neI wH904 (Or.inr (by decide))).symm
          have m915 := Wr.I wH904
          have m915 := m915.symm
          exact x_vret C hQ dX10_asks_112 hSH904 (by decide) (by decide) (⟨rfl, ⟨(by show (fI _ uq ((0 : Int32).toNatClampNeg)).toInt = x2.toInt; rw [← m908]), (by show (fI _ uq ((1 : Int32).toNatClampNeg)).toInt = x1.toInt; rw [← m909]), (by show (0 ≤ 2 * x2.toInt + 1 - x1.toInt ∧ (fI _ uq ((2 : Int32).toNatClampNeg)).toInt = _) ∨ (2 * x2.toInt + 1 - x1.toInt < 0 ∧ (fI _ uq ((2 : Int32).toNatClampNeg)).toInt = _); rw [← m910]; omega), (by show (x2.toInt ≤ x1.toInt - 1 - x2.toInt ∧ (fI _ uq ((3 : Int32).toNatClampNeg)).toInt = _) ∨ (x1.toInt - 1 - x2.toInt ≤ x2.toInt ∧ (fI _ uq ((3 : Int32).toNatClampNeg)).toInt = _); rw [← m911]; omega), (by show (fI _ uq ((4 : Int32).toNatClampNeg)).toInt = x3.toInt; rw [← m912]), (by show (fI _ uq ((5 : Int32).toNatClampNeg)).toInt = x4.toInt; rw [← m913]), (by show (fI _ uq ((6 : Int32).toNatClampNeg)).toInt = x5.toInt; rw [← m914]), (by show (fI _ uq ((7 : Int32).toNatClampNeg)).toInt = x6.toInt; rw [← m915]), (by show (fI _ uq ((8 : Int32).toNatClampNeg)).toInt = 0; rw [m906]; rfl), (by show (fI _ uq ((9 : Int32).toNatClampNeg)).toInt = 0; rw [m907]; rfl)⟩, hTH904⟩)
      · have k767 := i_nle c766
        refine lv_aload_n hx hb dX10_asks_10 rfl (lv_at hl763 0 rfl) ?_
        refine x_gr C hTH761 (ci := 10) (k := 43) rfl inX10 (by decide) wF_X10_95 ga0 rg_112 rfl dX10_asks_11 (fun q916 eq916 gq916 => ?_)
        have uq916 : uq = q916 := (cy765_0).trans eq916.symm
        subst uq916
        refine lv_iload hx hb dX10_asks_14 (lv_at hl763 7 rfl) ?_
        refine lv_iconst (v := 0) hx hb dX10_asks_16 (by decide) ?_
        refine x_iast C hTH761 hSH761 guq rg_139 (by omega) (by show _ < ((14 : Nat) : Int); omega) (by decide) (AE_in guq (by decide)) dX10_asks_17 (fun H917 locsH917 hTH917 hSH917 wH917 => ?_)
        have m918 := cy765_0.trans (Wr.neR wH917 (Or.inl (G_ne ga0 guq (by decide)))).symm
        have m919 := Wr.I wH917
        obtain ⟨x920, ex920⟩ : ∃ y : Int32, y = x764 + 1 := ⟨_, rfl⟩
        have tx920 := i_add ex920 (by omega)
        refine lv_iinc (v := x920) (lv' := [(7, .int x920), (0, .ref a0), (1, .int x1), (2, .int x2), (3, .int x3), (4, .int x4), (5, .int x5), (6, .int x6)]) hx hb dX10_asks_18 hl763 (k := 7) rfl (by rw [ex920]; rfl) (by decide) rfl (fun ls921 hl922 => ?_)
        refine lv_goto (tgt := 3) hx hb dX10_asks_21 (by decide) ?_
        have cn_x764 := i_cl (x := x764) (by omega)
        have cn_x920 := i_cl (x := x920) (by omega)
        exact ih3  ls921 H917 locsH917 (x920) (lv_sub hl922 [1, 2, 3, 4, 5, 6, 7, 0] rfl) hTH917 hSH917 (by have := i_rng x920; omega) m918 (by omega) (fun j hj => if e : j = x764.toNatClampNeg then (by rw [e]; exact Wr.I wH917) else (by rw [Wr.neI wH917 (Or.inr e)]; exact hz3 j (by omega)))
  refine lv_iconst (v := 0) hx hb dX10_asks_0 (by decide) ?_
  refine lv_istore (lv' := [(7, .int 0), (0, .ref a0), (1, .int x1), (2, .int x2), (3, .int x3), (4, .int x4), (5, .int x5), (6, .int x6)]) hx hb dX10_asks_1 hl (by decide) rfl (fun ls923 hl924 => ?_)
  exact J3 ((14 - (0 : Int32).toInt).toNat + 1)  ls923 s.heap [] (0) (lv_sub hl924 [1, 2, 3, 4, 5, 6, 7, 0] rfl) hT hS (by decide) euq (by omega) (fun j hj => absurd hj (Nat.not_lt_zero j))

set_option maxHeartbeats 4000000 in
set_option maxRecDepth 100000 in
theorem a_X10_asksSlice_v (l : Launch) (K : KE) (G : Nat → Option Nat) (H : Heap) {a0 : Nat} (x1 : Int32) (x2 : Int32) {uq : Nat} {nq : Nat} {kq : Nat} {gq : Nat} {hq : Nat} {wq : Nat} (sz : Int32) (hT : TY K G H) (ga0 : G a0 = some 112) (hx1 : 0 ≤ x1.toInt ∧ x1.toInt ≤ 9) (hx2 : 0 ≤ x2.toInt ∧ x2.toInt ≤ 15) (guq : G uq = some 139) (euq : uq = fR H a0 (K.1.2 10 43)) (gnq : G nq = some 113) (enq : nq = fR H a0 (K.1.2 10 4)) (gkq : G kq = some 114) (ekq : kq = fR H a0 (K.1.2 10 5)) (ggq : G gq = some 115) (egq : gq = fR H a0 (K.1.2 10 6)) (ghq : G hq = some 116) (ehq : hq = fR H a0 (K.1.2 10 7)) (gwq : G wq = some 117) (ewq : wq = fR H a0 (K.1.2 10 8)) (esz : sz = fI H nq (x1 : Int32).toNatClampNeg) : MX l K yX10_asksSlice cX10_asksSlice 3 none 2 48 0 0 [.ref a0, .int x1, .int x2] H (AE G [139] H.size) (fun v H1 => v = none ∧ (SEA (fun j => fI H1 uq j) sz.toInt x2.toInt (fI H kq (16 * x1.toNatClampNeg + x2.toNatClampNeg)).toInt (fI H gq (16 * x1.toNatClampNeg + x2.toNatClampNeg)).toInt (fI H hq (16 * x1.toNatClampNeg + x2.toNatClampNeg)).toInt (fI H wq (16 * x1.toNatClampNeg + x2.toNatClampNeg)).toInt) ∧ TY K G H1) := by
  refine MX.of (by decide +kernel) (Nat.le_of_ble_eq_true rfl) ?_
  intro p e s m below meth c ls Q C hH hl hQ
  subst hH
  have C : CX p K s m _ meth c RX10 cX10_asksSlice 3 none "asksSlice" := C
  obtain ⟨hx, hb, hml, hown, hts, hKT, hr, hlocks, hnm⟩ := id C
  have hl : lv_has ls 3 [(0, .ref a0), (1, .int x1), (2, .int x2)] := hl
  have hS : va_S (AE G [139] s.heap.size) s.heap s.heap [] := va_S.rf
  have n_16 : (16 : Int32).toInt = 16 := rfl
  have bsz := ty_ai (x := sz) esz hT gnq rg_113 (by omega)
  have hap : ∀ x y, x < 74 → y < 74 → x ≠ y → K.1.2 10 x ≠ K.1.2 10 y := x_apart hKT hts inX10 tyX10 tyX10_ok nmX10 rfl
  refine lv_aload_n hx hb dX10_asksSlice_0 rfl (lv_at hl 0 rfl) ?_
  refine lv_aload_n hx hb dX10_asksSlice_1 rfl (lv_at hl 0 rfl) ?_
  refine x_gr C hT (ci := 10) (k := 4) rfl inX10 (by decide) wF_X10_13 ga0 rg_112 rfl dX10_asksSlice_2 (fun q225 eq225 gq225 => ?_)
  have uq225 : nq = q225 := (enq).trans eq225.symm
  subst uq225
  refine lv_iload_n hx hb dX10_asksSlice_5 rfl (lv_at hl 1 rfl) ?_
  refine x_ai C hT gnq rg_113 ⟨by omega, by show _ < ((10 : Nat) : Int); omega⟩ dX10_asksSlice_6 (fun x226 ex226 bx226 => ?_)
  have ux226 : sz = x226 := (esz).trans ex226.symm
  subst ux226
  refine lv_iload_n hx hb dX10_asksSlice_7 rfl (lv_at hl 2 rfl) ?_
  refine lv_aload_n hx hb dX10_asksSlice_8 rfl (lv_at hl 0 rfl) ?_
  refine x_gr C hT (ci := 10) (k := 5) rfl inX10 (by decide) wF_X10_17 ga0 rg_112 rfl dX10_asksSlice_9 (fun q227 eq227 gq227 => ?_)
  have uq227 : kq = q227 := (ekq).trans eq227.symm
  subst uq227
  refine lv_bipush (v := 16) hx hb dX10_asksSlice_12 (by decide) ?_
  refine lv_iload_n hx hb dX10_asksSlice_14 rfl (lv_at hl 1 rfl) ?_
  refine lv_imul hx hb dX10_asksSlice_15 ?_
  refine lv_topi (fun x228 ex228 => ?_)
  have tx228 := i_mul ex228 (by rw [n_16]; omega)
  rw [n_16] at tx228
  refine lv_iload_n hx hb dX10_asksSlice_16 rfl (lv_at hl 2 rfl) ?_
  refine lv_iadd hx hb dX10_asksSlice_17 ?_
  refine lv_topi (fun x229 ex229 => ?_)
  have tx229 := i_add ex229 (by omega)
  refine x_ai C hT gkq rg_114 ⟨by omega, by show _ < ((160 : Nat) : Int); omega⟩ dX10_asksSlice_18 (fun x230 ex230 bx230 => ?_)
  refine lv_aload_n hx hb dX10_asksSlice_19 rfl (lv_at hl 0 rfl) ?_
  refine x_gr C hT (ci := 10) (k := 6) rfl inX10 (by decide) wF_X10_20 ga0 rg_112 rfl dX10_asksSlice_20 (fun q231 eq231 gq231 => ?_)
  have uq231 : gq = q231 := (egq).trans eq231.symm
  subst uq231
  refine lv_bipush (v := 16) hx hb dX10_asksSlice_23 (by decide) ?_
  refine lv_iload_n hx hb dX10_asksSlice_25 rfl (lv_at hl 1 rfl) ?_
  refine lv_imul hx hb dX10_asksSlice_26 ?_
  refine lv_topi (fun x232 ex232 => ?_)
  have tx232 := i_mul ex232 (by rw [n_16]; omega)
  rw [n_16] at tx232
  refine lv_iload_n hx hb dX10_asksSlice_27 rfl (lv_at hl 2 rfl) ?_
  refine lv_iadd hx hb dX10_asksSlice_28 ?_
  refine lv_topi (fun x233 ex233 => ?_)
  have tx233 := i_add ex233 (by omega)
  refine x_ai C hT ggq rg_115 ⟨by omega, by show _ < ((160 : Nat) : Int); omega⟩ dX10_asksSlice_29 (fun x234 ex234 bx234 => ?_)
  refine lv_aload_n hx hb dX10_asksSlice_30 rfl (lv_at hl 0 rfl) ?_
  refine x_gr C hT (ci := 10) (k := 7) rfl inX10 (by decide) wF_X10_23 ga0 rg_112 rfl dX10_asksSlice_31 (fun q235 eq235 gq235 => ?_)
  have uq235 : hq = q235 := (ehq).trans eq235.symm
  subst uq235
  refine lv_bipush (v := 16) hx hb dX10_asksSlice_34 (by decide) ?_
  refine lv_iload_n hx hb dX10_asksSlice_36 rfl (lv_at hl 1 rfl) ?_
  refine lv_imul hx hb dX10_asksSlice_37 ?_
  refine lv_topi (fun x236 ex236 => ?_)
  have tx236 := i_mul ex236 (by rw [n_16]; omega)
  rw [n_16] at tx236
  refine lv_iload_n hx hb dX10_asksSlice_38 rfl (lv_at hl 2 rfl) ?_
  refine lv_iadd hx hb dX10_asksSlice_39 ?_
  refine lv_topi (fun x237 ex237 => ?_)
  have tx237 := i_add ex237 (by omega)
  refine x_ai C hT ghq rg_116 ⟨by omega, by show _ < ((160 : Nat) : Int); omega⟩ dX10_asksSlice_40 (fun x238 ex238 bx238 => ?_)
  refine lv_aload_n hx hb dX10_asksSlice_41 rfl (lv_at hl 0 rfl) ?_
  refine x_gr C hT (ci := 10) (k := 8) rfl inX10 (by decide) wF_X10_26 ga0 rg_112 rfl dX10_asksSlice_42 (fun q239 eq239 gq239 => ?_)
  have uq239 : wq = q239 := (ewq).trans eq239.symm
  subst uq239
  refine lv_bipush (v := 16) hx hb dX10_asksSlice_45 (by decide) ?_
  refine lv_iload_n hx hb dX10_asksSlice_47 rfl (lv_at hl 1 rfl) ?_
  refine lv_imul hx hb dX10_asksSlice_48 ?_
  refine lv_topi (fun x240 ex240 => ?_)
  have tx240 := i_mul ex240 (by rw [n_16]; omega)
  rw [n_16] at tx240
  refine lv_iload_n hx hb dX10_asksSlice_49 rfl (lv_at hl 2 rfl) ?_
  refine lv_iadd hx hb dX10_asksSlice_50 ?_
  refine lv_topi (fun x241 ex241 => ?_)
  have tx241 := i_add ex241 (by omega)
  refine x_ai C hT gwq rg_117 ⟨by omega, by show _ < ((160 : Nat) : Int); omega⟩ dX10_asksSlice_51 (fun x242 ex242 bx242 => ?_)
  refine x_V (As := [.int sz, .int x2, .int x230, .int x234, .int x238, .int x242]) (rest := []) C (a_X10_asks_v l K G s.heap (sz) (x2) (x230) (x234) (x238) (x242) hT ga0 (by omega) (by omega) guq euq) yo_X10_asks wM_X10_312 ⟨⟨by decide, by decide⟩, by decide, by decide⟩ (x_rv C hT (ci := 10) rfl ga0 rg_112) rfl hl.1 rfl (Nat.le_of_ble_eq_true rfl) dX10_asksSlice_52 hS (AE_sub (fun _ _ => rfl) (by decide) hS.1) (fun vH243 H243 locsH243 pH243 zH243 kH243 hSH243 => ?_)
  obtain ⟨hvH243, m244, hTH243⟩ := pH243
  subst hvH243
  have m245 := (euq).trans (fR_kept (x_lt hT kH243 ga0 (by decide))).symm
  have m246 := (enq).trans (fR_kept (x_lt hT kH243 ga0 (by decide))).symm
  have m247 := (ekq).trans (fR_kept (x_lt hT kH243 ga0 (by decide))).symm
  have m248 := (egq).trans (fR_kept (x_lt hT kH243 ga0 (by decide))).symm
  have m249 := (ehq).trans (fR_kept (x_lt hT kH243 ga0 (by decide))).symm
  have m250 := (ewq).trans (fR_kept (x_lt hT kH243 ga0 (by decide))).symm
  have m251 := (esz).trans (fI_kept (x_lt hT kH243 gnq (by decide))).symm
  have m252 := (ex230).trans (fI_kept (x_lt hT kH243 gkq (by decide))).symm
  have m253 := (ex234).trans (fI_kept (x_lt hT kH243 ggq (by decide))).symm
  have m254 := (ex238).trans (fI_kept (x_lt hT kH243 ghq (by decide))).symm
  have m255 := (ex242).trans (fI_kept (x_lt hT kH243 gwq (by decide))).symm
  have cn_x1 := i_cl (x := x1) (by omega)
  have cn_x2 := i_cl (x := x2) (by omega)
  have cn_x229 := i_cl (x := x229) (by omega)
  have cn_x233 := i_cl (x := x233) (by omega)
  have cn_x237 := i_cl (x := x237) (by omega)
  have cn_x241 := i_cl (x := x241) (by omega)
  refine W.eq (g2 := F0 m 55 ls []) rfl ?_
  exact x_vret C hQ dX10_asksSlice_55 hSH243 (by decide) (by decide) (⟨rfl, (by have z := m244; rw [show x230 = fI s.heap kq (16 * x1.toNatClampNeg + x2.toNatClampNeg) from by rw [ex230, show x229.toNatClampNeg = (16 * x1.toNatClampNeg + x2.toNatClampNeg) by omega], show x234 = fI s.heap gq (16 * x1.toNatClampNeg + x2.toNatClampNeg) from by rw [ex234, show x233.toNatClampNeg = (16 * x1.toNatClampNeg + x2.toNatClampNeg) by omega], show x238 = fI s.heap hq (16 * x1.toNatClampNeg + x2.toNatClampNeg) from by rw [ex238, show x237.toNatClampNeg = (16 * x1.toNatClampNeg + x2.toNatClampNeg) by omega], show x242 = fI s.heap wq (16 * x1.toNatClampNeg + x2.toNatClampNeg) from by rw [ex242, show x241.toNatClampNeg = (16 * x1.toNatClampNeg + x2.toNatClampNeg) by omega]] at z; exact z), hTH243⟩)
