theorem arV_go {T : TF} {sl am mi s s1 d : Int} {n m : Nat} {v : BW} (hn : n = m + 1) (hs : s1 = s + 1) (hd : (0 ≤ s - mi ∧ d = am - (s - mi)) ∨ (s - mi < 0 ∧ d = am - (mi - s))) : arV T sl am mi n s v = arV T sl am mi m s1 (paV T sl v s d) := by
  subst hn; subst hs
  show arV T sl am mi m (s + 1) (paV T sl v s (am - (if s - mi < 0 then mi - s else s - mi))) = _
  rw [show am - (if s - mi < 0 then mi - s else s - mi) = d by split <;> omega]
theorem arV_end {T : TF} {sl am mi s : Int} {n : Nat} {v : BW} (hn : n = 0) : arV T sl am mi n s v = v := by subst hn; rfl
theorem liV_w {T : TF} {sl wd i j am : Int} {v : BW} {n : Nat} (h : wd = 6) (hi : 0 ≤ i ∧ i < v 0 0) (hn : n = i.toNat) : liV T sl wd i j am v = upV v 4 n am := by subst hn; unfold liV; rw [if_pos h, if_pos hi]
theorem liV_w0 {T : TF} {sl wd i j am : Int} {v : BW} (h : wd = 6) (hi : ¬ (0 ≤ i ∧ i < v 0 0)) : liV T sl wd i j am v = v := by unfold liV; rw [if_pos h, if_neg hi]
theorem liV_s {T : TF} {sl wd i j am : Int} {v : BW} (h : wd = 4) : liV T sl wd i j am v = paV T sl v i am := by unfold liV; rw [if_neg (by omega), if_pos h]
theorem liV_a {T : TF} {sl wd i j am mi : Int} {v : BW} {n : Nat} (h : wd ≠ 4 ∧ wd ≠ 6) (hm : mi = (i + j) / 2) (hn : n = (min (j + 1) (v 0 0) - i).toNat) : liV T sl wd i j am v = arV T sl am mi n i v := by subst hm; subst hn; unfold liV; rw [if_neg h.2, if_neg h.1]
set_option maxHeartbeats 4000000 in
set_option maxRecDepth 100000 in
theorem a_X9_doLine_v (l : Launch) (K : KE) (G : Nat → Option Nat) (H : Heap) {a0 : Nat} {a1 : Nat} (x2 : Int32) {a3 : Nat} {smq : Nat} {w0 : Nat} {lawq : Nat} {tx : Nat} {kq : Nat} {xq : Nat} {gq : Nat} {psq : Nat} {pdq : Nat} {wq : Nat} {fq : Nat} {jq : Nat} {eq_ : Nat} (pcn : Int32) (lb : Int32) (fo : Int32) (sl : Int32) (sz : Int32) (fsE : Nat → EF) (fwE : Nat → EF) (hT : TY K G H) (ga0 : G a0 = some 68) (ga1 : G a1 = some 16) (hx2 : 0 ≤ x2.toInt ∧ x2.toInt ≤ 15) (ga3 : G a3 = some 1) (gsmq : G smq = some 82) (esmq : smq = fR H a0 (K.1.2 9 5)) (gw0 : G w0 = some 0) (ew0 : w0 = fR H a0 (K.1.2 9 0)) (glawq : G lawq = some 26) (elawq : lawq = fR H w0 (K.1.2 8 2)) (gtx : G tx = some 16) (etx : tx = fR H lawq (fo : Int32).toNatClampNeg) (gkq : G kq = some 2) (ekq : kq = fR H a3 (K.1.2 0 1)) (gxq : G xq = some 5) (exq : xq = fR H a3 (K.1.2 0 4)) (ggq : G gq = some 6) (egq : gq = fR H a3 (K.1.2 0 5)) (gpsq : G psq = some 7) (epsq : psq = fR H a3 (K.1.2 0 6)) (gpdq : G pdq = some 8) (epdq : pdq = fR H a3 (K.1.2 0 7)) (gwq : G wq = some 17) (ewq : wq = fR H a1 (K.1.2 7 1)) (gfq : G fq = some 18) (efq : fq = fR H a1 (K.1.2 7 2)) (gjq : G jq = some 19) (ejq : jq = fR H a1 (K.1.2 7 3)) (geq_ : G eq_ = some 20) (eeq_ : eq_ = fR H a1 (K.1.2 7 4)) (epcn : pcn = fI H a3 (K.1.2 0 8)) (elb : lb = fI H a3 (K.1.2 0 9)) (efo : fo = fI H w0 (K.1.2 8 4)) (esl : sl = fI H w0 (K.1.2 8 5)) (esz : sz = fI H a3 (K.1.2 0 0)) (hp0 : 0 ≤ sl.toInt ∧ sl.toInt ≤ 9999) (hp1 : 3 ≤ sz.toInt) (hy0 : TXC K H tx 1 fsE fwE) (hy1 : ∀ j : Nat, j < 3 → 0 ≤ (fI H gq j).toInt ∧ (fI H gq j).toInt ≤ 999999) (hy2 : 0 ≤ (fI H fq x2.toNatClampNeg).toInt ∧ (fI H fq x2.toNatClampNeg).toInt ≤ 15 ∧ 0 ≤ (fI H jq x2.toNatClampNeg).toInt ∧ (fI H jq x2.toNatClampNeg).toInt ≤ 15 ∧ 0 ≤ (fI H eq_ x2.toNatClampNeg).toInt ∧ (fI H eq_ x2.toNatClampNeg).toInt ≤ 99) : MX l K yX9_doLine cX9_doLine 9 none 6 149 0 0 [.ref a0, .ref a1, .int x2, .ref a3] H (AE G [1, 2, 7, 8, 83, 84, 5] H.size) (fun v H1 => ∃ (t0 : Int32) (t1 : Int32), v = none ∧ t0 = fI H1 a3 (K.1.2 0 8) ∧ t1 = fI H1 a3 (K.1.2 0 9) ∧ kq = fR H1 a3 (K.1.2 0 1) ∧ xq = fR H1 a3 (K.1.2 0 4) ∧ gq = fR H1 a3 (K.1.2 0 5) ∧ psq = fR H1 a3 (K.1.2 0 6) ∧ pdq = fR H1 a3 (K.1.2 0 7) ∧ sz = fI H1 a3 (K.1.2 0 0) ∧ (vwC K H1 a3 = liV (tlC K H tx fsE fwE) sl.toInt (fI H wq x2.toNatClampNeg).toInt (fI H fq x2.toNatClampNeg).toInt (fI H jq x2.toNatClampNeg).toInt (fI H eq_ x2.toNatClampNeg).toInt (vwC K H a3)) ∧ (∀ q t : Nat, G q = some t → t ≠ 83 → t ≠ 84 → q ≠ a3 → q ≠ kq → q ≠ xq → q ≠ psq → q ≠ pdq → H1[q]? = H[q]?) ∧ TY K G H1) := by
  refine MX.of (by decide +kernel) (Nat.le_of_ble_eq_true rfl) ?_
  intro p e s m below meth c ls Q C hH hl hQ
  subst hH
  have C : CX p K s m _ meth c RX9 cX9_doLine 9 none "doLine" := C
  obtain ⟨hx, hb, hml, hown, hts, hKT, hr, hlocks, hnm⟩ := id C
  have hl : lv_has ls 9 [(0, .ref a0), (1, .ref a1), (2, .int x2), (3, .ref a3)] := hl
  have hS : va_S (AE G [1, 2, 7, 8, 83, 84, 5] s.heap.size) s.heap s.heap [] := va_S.rf
  have n_0 : (0 : Int32).toInt = 0 := rfl
  have n_1 : (1 : Int32).toInt = 1 := rfl
  have n_2 : (2 : Int32).toInt = 2 := rfl
  have n_4 : (4 : Int32).toInt = 4 := rfl
  have n_6 : (6 : Int32).toInt = 6 := rfl
  have bpcn := ty_fi (x := pcn) (k := 8) epcn hT ga3 rg_1 rfl
  have blb := ty_fi (x := lb) (k := 9) elb hT ga3 rg_1 rfl
  have bfo := ty_fi (x := fo) (k := 4) efo hT gw0 rg_0 rfl
  have bsl := ty_fi (x := sl) (k := 5) esl hT gw0 rg_0 rfl
  have bsz := ty_fi (x := sz) (k := 0) esz hT ga3 rg_1 rfl
  have hapB : ∀ x y, x < 18 → y < 18 → x ≠ y → K.1.2 0 x ≠ K.1.2 0 y := x_apart hKT hts inX0 tyX0 tyX0_ok nmX0 rfl
  have vw_0 : vwC K s.heap a3 = vwC K s.heap a3 := rfl
  have v00 : vwC K s.heap a3 0 0 = sz.toInt := by rw [vwC_f (Or.inl rfl), ← esz]
  have f0_fx : ∀ q t : Nat, G q = some t → t ≠ 83 → t ≠ 84 → q ≠ a3 → q ≠ kq → q ≠ xq → q ≠ psq → q ≠ pdq → s.heap[q]? = s.heap[q]? := fun _ _ _ _ _ _ _ _ _ _ => rfl
  have f0_tf : TXF G s.heap s.heap := TXF.rf
  have f0_s_gq : ∀ j : Nat, fI s.heap gq j = fI s.heap gq j := fun _ => rfl
  have f0_s_wq : ∀ j : Nat, fI s.heap wq j = fI s.heap wq j := fun _ => rfl
  have f0_s_fq : ∀ j : Nat, fI s.heap fq j = fI s.heap fq j := fun _ => rfl
  have f0_s_jq : ∀ j : Nat, fI s.heap jq j = fI s.heap jq j := fun _ => rfl
  have f0_s_eq : ∀ j : Nat, fI s.heap eq_ j = fI s.heap eq_ j := fun _ => rfl
  have J105 : ∀ (nf : Nat) (vb : BW) (ls786 : Array Slot) (H785 : Heap) (locsH785 : List Loc) (x788 : Int32) (x789 : Int32) (x790 : Int32) (x791 : Int32) (x792 : Int32) (x793 : Int32), lv_has ls786 9 [(0, .ref a0), (3, .ref a3), (5, .int x788), (6, .int x789), (7, .int x790), (8, .int x791)] → TY K G H785 → va_S (AE G [1, 2, 7, 8, 83, 84, 5] s.heap.size) s.heap H785 locsH785 → (0 ≤ x788.toInt ∧ x788.toInt ≤ 99) → ((-1) ≤ x789.toInt ∧ x789.toInt ≤ 15) → (0 ≤ x790.toInt ∧ x790.toInt ≤ 15) → (0 ≤ x791.toInt ∧ x791.toInt ≤ 16) → (0 ≤ x792.toInt ∧ x792.toInt ≤ 200) → (x792 = fI H785 a3 (K.1.2 0 8)) → (x793 = fI H785 a3 (K.1.2 0 9)) → (smq = fR H785 a0 (K.1.2 9 5)) → (w0 = fR H785 a0 (K.1.2 9 0)) → (lawq = fR H785 w0 (K.1.2 8 2)) → (tx = fR H785 lawq (fo : Int32).toNatClampNeg) → (kq = fR H785 a3 (K.1.2 0 1)) → (xq = fR H785 a3 (K.1.2 0 4)) → (gq = fR H785 a3 (K.1.2 0 5)) → (psq = fR H785 a3 (K.1.2 0 6)) → (pdq = fR H785 a3 (K.1.2 0 7)) → (wq = fR H785 a1 (K.1.2 7 1)) → (fq = fR H785 a1 (K.1.2 7 2)) → (jq = fR H785 a1 (K.1.2 7 3)) → (eq_ = fR H785 a1 (K.1.2 7 4)) → (fo = fI H785 w0 (K.1.2 8 4)) → (sl = fI H785 w0 (K.1.2 8 5)) → (sz = fI H785 a3 (K.1.2 0 0)) → (∀ q t : Nat, G q = some t → t ≠ 83 → t ≠ 84 → q ≠ a3 → q ≠ kq → q ≠ xq → q ≠ psq → q ≠ pdq → H785[q]? = s.heap[q]?) → (TXF G H785 s.heap) → (∀ j : Nat, fI H785 gq j = fI s.heap gq j) → (∀ j : Nat, fI H785 wq j = fI s.heap wq j) → (∀ j : Nat, fI H785 fq j = fI s.heap fq j) → (∀ j : Nat, fI H785 jq j = fI s.heap jq j) → (∀ j : Nat, fI H785 eq_ j = fI s.heap eq_ j) → (16 - x791.toInt < (nf : Int)) → (vwC K H785 a3 = vb) → (liV (tlC K s.heap tx fsE fwE) sl.toInt (fI s.heap wq x2.toNatClampNeg).toInt (fI s.heap fq x2.toNatClampNeg).toInt (fI s.heap jq x2.toNatClampNeg).toInt (fI s.heap eq_ x2.toNatClampNeg).toInt (vwC K s.heap a3) = arV (tlC K s.heap tx fsE fwE) sl.toInt x788.toInt x790.toInt (x789.toInt + 1 - x791.toInt).toNat x791.toInt vb) → W p l e ({ frames := 6, cells := 0, slots := 0, locals := 149 } : Room) s m (([.ref a0, .ref a1, .int x2, .ref a3] : List Value).toArray) below meth c H785 locsH785 0 0 Q (F0 m 105 ls786 []) := by
    intro nf
    induction nf with
    | zero =>
      intro vb ls786 H785 locsH785 x788 x789 x790 x791 x792 x793 hl787 hTH785 hSH785 bx788 bx789 bx790 bx791 bx792 ex792 ex793 cy794_0 cy794_1 cy794_2 cy794_3 cy794_4 cy794_5 cy794_6 cy794_7 cy794_8 cy794_9 cy794_10 cy794_11 cy794_12 cy794_13 cy794_14 cy794_15 fy794_fx fy794_tf fy794_s_gq fy794_s_wq fy794_s_fq fy794_s_jq fy794_s_eq hm105 hvb105 hsp105
      have rx793 := i_rng x793
      exfalso
      omega
    | succ nf ih105 =>
      intro vb ls786 H785 locsH785 x788 x789 x790 x791 x792 x793 hl787 hTH785 hSH785 bx788 bx789 bx790 bx791 bx792 ex792 ex793 cy794_0 cy794_1 cy794_2 cy794_3 cy794_4 cy794_5 cy794_6 cy794_7 cy794_8 cy794_9 cy794_10 cy794_11 cy794_12 cy794_13 cy794_14 cy794_15 fy794_fx fy794_tf fy794_s_gq fy794_s_wq fy794_s_fq fy794_s_jq fy794_s_eq hm105 hvb105 hsp105
      have rx793 := i_rng x793
      refine lv_iload hx hb dX9_doLine_105 (lv_at hl787 5 rfl) ?_
      refine lv_iload hx hb dX9_doLine_107 (lv_at hl787 3 rfl) ?_
      refine lv_icmp_gt (tgt := 137) hx hb dX9_doLine_109 (by decide) (fun c795 => ?_) (fun c795 => ?_)
      · have k796 := i_lt c795
        have cn_x2 := i_cl (x := x2) (by omega)
        exact x_vret C hQ dX9_doLine_137 hSH785 (by decide) (by decide) (⟨x792, x793, rfl, ex792, ex793, cy794_4, cy794_5, cy794_6, cy794_7, cy794_8, cy794_15, (hvb105.trans ((arV_end (by omega)).symm.trans hsp105.symm)), fy794_fx, hTH785⟩)
      · have k796 := i_nlt c795
        refine lv_aload_n hx hb dX9_doLine_112 rfl (lv_at hl787 0 rfl) ?_
        refine lv_aload_n hx hb dX9_doLine_113 rfl (lv_at hl787 1 rfl) ?_
        refine lv_iload hx hb dX9_doLine_114 (lv_at hl787 5 rfl) ?_
        refine lv_iload hx hb dX9_doLine_116 (lv_at hl787 2 rfl) ?_
        refine lv_iload hx hb dX9_doLine_118 (lv_at hl787 5 rfl) ?_
        refine lv_iload hx hb dX9_doLine_120 (lv_at hl787 4 rfl) ?_
        refine lv_isub hx hb dX9_doLine_122 ?_
        refine lv_topi (fun x797 ex797 => ?_)
        have tx797 := i_sub ex797 (by omega)
        refine va_mabs hx hb (hml.trans hl787.1.symm) hown (hts _ wM_X9_362) (hts _ wST_J9_abs_0f7a4) (hts _ wIN_J9) (hts _ wCD_J9_abs_0f7a4) (by decide) (Nat.le_of_ble_eq_true rfl) (by decide) (by decide) dX9_doLine_123 ?_
        refine lv_topi (fun x798 ex798 => ?_)
        have tx798 := i_abs ex798 (by omega)
        refine lv_isub hx hb dX9_doLine_126 ?_
        refine lv_topi (fun x799 ex799 => ?_)
        have tx799 := i_sub ex799 (by omega)
        refine x_V (As := [.ref a3, .int x791, .int x799]) (rest := []) C (a_X9_takeOff_v l K G H785 (x791) (x799) (x792) (x793) (fo) (sl) (sz) (fsE) (fwE) hTH785 ga0 ga3 gsmq cy794_0 gw0 cy794_1 glawq cy794_2 gtx cy794_3 gkq cy794_4 gxq cy794_5 ggq cy794_6 gpsq cy794_7 gpdq cy794_8 ex792 ex793 cy794_13 cy794_14 cy794_15 (by omega) ((TXC.frm hT gtx fy794_tf hy0)) ((fun j hj => by rw [fy794_s_gq j]; exact hy1 j hj))) yo_X9_takeOff wM_X9_170 ⟨⟨by decide, by decide⟩, by decide, by decide⟩ (x_rv C hTH785 (ci := 9) rfl ga0 rg_68) rfl hl787.1 rfl (Nat.le_of_ble_eq_true rfl) dX9_doLine_127 hSH785 (AE_sub (fun _ _ => rfl) (by decide) hSH785.1) (fun vH800 H800 locsH800 pH800 zH800 kH800 hSH800 => ?_)
        obtain ⟨x801, x802, x803, hvH800, ex802, ex803, m804, m805, m806, m807, m808, m809, m810, m811, m812, hTH800⟩ := pH800
        subst hvH800
        have f813 : ∀ q t : Nat, G q = some t → t ≠ 83 → t ≠ 84 → q ≠ a3 → q ≠ kq → q ≠ xq → q ≠ psq → q ≠ pdq → H800[q]? = s.heap[q]? := (fun q t hq h1 h2 n1 n2 n3 n4 n5 => (x_lt hTH785 kH800 hq (by first | omega | (intro z; simp only [List.mem_cons, List.not_mem_nil, or_false] at z <;> omega))).trans (fy794_fx q t hq h1 h2 n1 n2 n3 n4 n5))
        have f814 : TXF G H800 s.heap := (fun q t hq h1 h2 => (x_lt hTH785 kH800 hq (by first | omega | (intro z; simp only [List.mem_cons, List.not_mem_nil, or_false] at z <;> omega))).trans (fy794_tf q t hq h1 h2))
        have f815 : ∀ j : Nat, fI H800 gq j = fI s.heap gq j := fun j => (fI_kept (x_lt hTH785 kH800 ggq (by decide))).trans (fy794_s_gq j)
        have f816 : ∀ j : Nat, fI H800 wq j = fI s.heap wq j := fun j => (fI_kept (x_lt hTH785 kH800 gwq (by decide))).trans (fy794_s_wq j)
        have f817 : ∀ j : Nat, fI H800 fq j = fI s.heap fq j := fun j => (fI_kept (x_lt hTH785 kH800 gfq (by decide))).trans (fy794_s_fq j)
        have f818 : ∀ j : Nat, fI H800 jq j = fI s.heap jq j := fun j => (fI_kept (x_lt hTH785 kH800 gjq (by decide))).trans (fy794_s_jq j)
        have f819 : ∀ j : Nat, fI H800 eq_ j = fI s.heap eq_ j := fun j => (fI_kept (x_lt hTH785 kH800 geq_ (by decide))).trans (fy794_s_eq j)
        have m820 := (cy794_0).trans (fR_kept (x_lt hTH785 kH800 ga0 (by decide))).symm
        have m821 := (cy794_1).trans (fR_kept (x_lt hTH785 kH800 ga0 (by decide))).symm
        have m822 := (cy794_2).trans (fR_kept (x_lt hTH785 kH800 gw0 (by decide))).symm
        have m823 := (cy794_3).trans (fR_kept (x_lt hTH785 kH800 glawq (by decide))).symm
        have m824 := (cy794_9).trans (fR_kept (x_lt hTH785 kH800 ga1 (by decide))).symm
        have m825 := (cy794_10).trans (fR_kept (x_lt hTH785 kH800 ga1 (by decide))).symm
        have m826 := (cy794_11).trans (fR_kept (x_lt hTH785 kH800 ga1 (by decide))).symm
        have m827 := (cy794_12).trans (fR_kept (x_lt hTH785 kH800 ga1 (by decide))).symm
        have m828 := (cy794_13).trans (fI_kept (x_lt hTH785 kH800 gw0 (by decide))).symm
        have m829 := (cy794_14).trans (fI_kept (x_lt hTH785 kH800 gw0 (by decide))).symm
        have bx802 := ty_fi (x := x802) (k := 8) ex802 hTH800 ga3 rg_1 rfl
        have bx803 := ty_fi (x := x803) (k := 9) ex803 hTH800 ga3 rg_1 rfl
        have vw830 : vwC K H800 a3 = (paV (tlC K s.heap tx fsE fwE) sl.toInt vb x791.toInt x799.toInt) := by rw [m810, tlC_frm hT gtx fy794_tf, hvb105]
        have f831 : ∀ q t : Nat, G q = some t → t ≠ 83 → t ≠ 84 → q ≠ a3 → q ≠ kq → q ≠ xq → q ≠ psq → q ≠ pdq → H800[q]? = s.heap[q]? := fun q t hq h1 h2 n1 n2 n3 n4 n5 => (m812 q t hq h1 h2 n1 (by rw [← show kq = kq from rfl] ; exact n2) (by rw [← show psq = psq from rfl]; exact n4) (by rw [← show pdq = pdq from rfl]; exact n5)).trans (fy794_fx q t hq h1 h2 n1 n2 n3 n4 n5)
        have f832 : TXF G H800 s.heap := fun q t hq h1 h2 => (m812 q t hq (by omega) (by omega) (G_ne hq ga3 (by omega)) (G_ne hq gkq (by omega)) (G_ne hq gpsq (by omega)) (G_ne hq gpdq (by omega))).trans (fy794_tf q t hq h1 h2)
        refine W.eq (g2 := F0 m 130 ls786 [.int x801]) rfl ?_
        refine lv_pop hx hb dX9_doLine_130 rfl ?_
        obtain ⟨x833, ex833⟩ : ∃ y : Int32, y = x791 + 1 := ⟨_, rfl⟩
        have tx833 := i_add ex833 (by omega)
        refine lv_iinc (v := x833) (lv' := [(8, .int x833), (0, .ref a0), (3, .ref a3), (5, .int x788), (6, .int x789), (7, .int x790)]) hx hb dX9_doLine_131 hl787 (k := 5) rfl (by rw [ex833]; rfl) (by decide) rfl (fun ls834 hl835 => ?_)
        refine lv_goto (tgt := 105) hx hb dX9_doLine_134 (by decide) ?_
        have cn_x791 := i_cl (x := x791) (by omega)
        have cn_x833 := i_cl (x := x833) (by omega)
        exact ih105 (paV (tlC K s.heap tx fsE fwE) sl.toInt vb x791.toInt x799.toInt) ls834 H800 locsH800 (x788) (x789) (x790) (x833) (x802) (x803) (lv_sub hl835 [1, 2, 3, 4, 5, 0] rfl) hTH800 hSH800 (by have := i_rng x788; omega) (by have := i_rng x789; omega) (by have := i_rng x790; omega) (by have := i_rng x833; omega) (by have := i_rng x802; omega) ex802 ex803 m820 m821 m822 m823 m804 m805 m806 m807 m808 m824 m825 m826 m827 m828 m829 m809 f831 f832 f815 f816 f817 f818 f819 (by omega) vw830 (hsp105.trans (arV_go (by omega) (by omega) (by omega)))
  refine lv_aload_n hx hb dX9_doLine_0 rfl (lv_at hl 1 rfl) ?_
  refine x_gr C hT (ci := 7) (k := 2) rfl inX7 (by decide) wF_X9_383 ga1 rg_16 rfl dX9_doLine_1 (fun q836 eq836 gq836 => ?_)
  have uq836 : fq = q836 := (efq).trans eq836.symm
  subst uq836
  refine lv_iload_n hx hb dX9_doLine_4 rfl (lv_at hl 2 rfl) ?_
  refine x_ai C hT gfq rg_18 ⟨by omega, by show _ < ((16 : Nat) : Int); omega⟩ dX9_doLine_5 (fun x837 ex837 bx837 => ?_)
  refine lv_istore (lv' := [(4, .int x837), (0, .ref a0), (1, .ref a1), (2, .int x2), (3, .ref a3)]) hx hb dX9_doLine_6 hl (by decide) rfl (fun ls838 hl839 => ?_)
  refine lv_aload_n hx hb dX9_doLine_8 rfl (lv_at hl839 2 rfl) ?_
  refine x_gr C hT (ci := 7) (k := 4) rfl inX7 (by decide) wF_X9_386 ga1 rg_16 rfl dX9_doLine_9 (fun q840 eq840 gq840 => ?_)
  have uq840 : eq_ = q840 := (eeq_).trans eq840.symm
  subst uq840
  refine lv_iload_n hx hb dX9_doLine_12 rfl (lv_at hl839 3 rfl) ?_
  refine x_ai C hT geq_ rg_20 ⟨by omega, by show _ < ((16 : Nat) : Int); omega⟩ dX9_doLine_13 (fun x841 ex841 bx841 => ?_)
  refine lv_istore (lv' := [(5, .int x841), (4, .int x837), (0, .ref a0), (1, .ref a1), (2, .int x2), (3, .ref a3)]) hx hb dX9_doLine_14 hl839 (by decide) rfl (fun ls842 hl843 => ?_)
  refine lv_aload_n hx hb dX9_doLine_16 rfl (lv_at hl843 3 rfl) ?_
  refine x_gr C hT (ci := 7) (k := 1) rfl inX7 (by decide) wF_X9_389 ga1 rg_16 rfl dX9_doLine_17 (fun q844 eq844 gq844 => ?_)
  have uq844 : wq = q844 := (ewq).trans eq844.symm
  subst uq844
  refine lv_iload_n hx hb dX9_doLine_20 rfl (lv_at hl843 4 rfl) ?_
  refine x_ai C hT gwq rg_17 ⟨by omega, by show _ < ((16 : Nat) : Int); omega⟩ dX9_doLine_21 (fun x845 ex845 bx845 => ?_)
  refine lv_bipush (v := 6) hx hb dX9_doLine_22 (by decide) ?_
  refine lv_icmp_ne (tgt := 48) hx hb dX9_doLine_24 (by decide) (fun c846 => ?_) (fun c846 => ?_)
  · have k847 := i_ne c846
    refine lv_aload_n hx hb dX9_doLine_48 rfl (lv_at hl843 3 rfl) ?_
    refine x_gr C hT (ci := 7) (k := 1) rfl inX7 (by decide) wF_X9_389 ga1 rg_16 rfl dX9_doLine_49 (fun q848 eq848 gq848 => ?_)
    have uq848 : wq = q848 := (ewq).trans eq848.symm
    subst uq848
    refine lv_iload_n hx hb dX9_doLine_52 rfl (lv_at hl843 4 rfl) ?_
    refine x_ai C hT gwq rg_17 ⟨by omega, by show _ < ((16 : Nat) : Int); omega⟩ dX9_doLine_53 (fun x849 ex849 bx849 => ?_)
    have ux849 : x845 = x849 := (ex845).trans ex849.symm
    subst ux849
    refine lv_iconst (v := 4) hx hb dX9_doLine_54 (by decide) ?_
    refine lv_icmp_ne (tgt := 71) hx hb dX9_doLine_55 (by decide) (fun c850 => ?_) (fun c850 => ?_)
    · have k851 := i_ne c850
      refine lv_aload_n hx hb dX9_doLine_71 rfl (lv_at hl843 3 rfl) ?_
      refine x_gr C hT (ci := 7) (k := 3) rfl inX7 (by decide) wF_X9_392 ga1 rg_16 rfl dX9_doLine_72 (fun q852 eq852 gq852 => ?_)
      have uq852 : jq = q852 := (ejq).trans eq852.symm
      subst uq852
      refine lv_iload_n hx hb dX9_doLine_75 rfl (lv_at hl843 4 rfl) ?_
      refine x_ai C hT gjq rg_19 ⟨by omega, by show _ < ((16 : Nat) : Int); omega⟩ dX9_doLine_76 (fun x853 ex853 bx853 => ?_)
      refine lv_aload_n hx hb dX9_doLine_77 rfl (lv_at hl843 5 rfl) ?_
      refine x_gi C hT (ci := 0) (k := 0) rfl inX0 (by decide) wF_X9_187 ga3 rg_1 rfl dX9_doLine_78 (fun x854 ex854 bx854 => ?_)
      have ux854 : sz = x854 := (esz).trans ex854.symm
      subst ux854
      refine lv_iconst (v := 1) hx hb dX9_doLine_81 (by decide) ?_
      refine lv_isub hx hb dX9_doLine_82 ?_
      refine lv_topi (fun x855 ex855 => ?_)
      have tx855 := i_sub ex855 (by omega)
      refine va_mmin hx hb (hml.trans hl843.1.symm) hown (hts _ wM_X9_395) (hts _ wST_J9_min_7cf53) (hts _ wIN_J9) (hts _ wCD_J9_min_7cf53) (by decide) (Nat.le_of_ble_eq_true rfl) (by decide) (by decide) dX9_doLine_83 ?_
      refine lv_topi (fun x856 ex856 => ?_)
      have tx856 := i_min ex856
      refine lv_istore (lv' := [(6, .int x856), (5, .int x841), (4, .int x837), (0, .ref a0), (1, .ref a1), (2, .int x2), (3, .ref a3)]) hx hb dX9_doLine_86 hl843 (by decide) rfl (fun ls857 hl858 => ?_)
      refine lv_iload hx hb dX9_doLine_88 (lv_at hl858 2 rfl) ?_
      refine lv_aload_n hx hb dX9_doLine_90 rfl (lv_at hl858 4 rfl) ?_
      refine x_gr C hT (ci := 7) (k := 3) rfl inX7 (by decide) wF_X9_392 ga1 rg_16 rfl dX9_doLine_91 (fun q859 eq859 gq859 => ?_)
      have uq859 : jq = q859 := (ejq).trans eq859.symm
      subst uq859
      refine lv_iload_n hx hb dX9_doLine_94 rfl (lv_at hl858 5 rfl) ?_
      refine x_ai C hT gjq rg_19 ⟨by omega, by show _ < ((16 : Nat) : Int); omega⟩ dX9_doLine_95 (fun x860 ex860 bx860 => ?_)
      have ux860 : x853 = x860 := (ex853).trans ex860.symm
      subst ux860
      refine lv_iadd hx hb dX9_doLine_96 ?_
      refine lv_topi (fun x861 ex861 => ?_)
      refine lv_iconst (v := 2) hx hb dX9_doLine_97 (by decide) ?_
      refine lv_idiv hx hb dX9_doLine_98 (fun h => by have := i_eq h; omega) ?_
      refine lv_topi (fun x862 ex862 => ?_)
      refine lv_istore (lv' := [(7, .int x862), (6, .int x856), (5, .int x841), (4, .int x837), (0, .ref a0), (1, .ref a1), (2, .int x2), (3, .ref a3)]) hx hb dX9_doLine_99 hl858 (by decide) rfl (fun ls863 hl864 => ?_)
      have kd2_ : x862.toInt = x861.toInt / 2 := by rw [ex862]; exact lg_idiv_nonneg (by omega) (by decide)
      refine lv_iload hx hb dX9_doLine_101 (lv_at hl864 3 rfl) ?_
      refine lv_istore (lv' := [(8, .int x837), (7, .int x862), (6, .int x856), (5, .int x841), (4, .int x837), (0, .ref a0), (1, .ref a1), (2, .int x2), (3, .ref a3)]) hx hb dX9_doLine_103 hl864 (by decide) rfl (fun ls865 hl866 => ?_)
      have cn_x2 := i_cl (x := x2) (by omega)
      exact J105 ((16 - x837.toInt).toNat + 1) (vwC K s.heap a3) ls865 s.heap [] (x841) (x856) (x862) (x837) (pcn) (lb) (lv_sub hl866 [5, 8, 3, 2, 1, 0] rfl) hT hS (by have := i_rng x841; omega) (by have := i_rng x856; omega) (by have := i_rng x862; omega) (by have := i_rng x837; omega) (by have := i_rng pcn; omega) epcn elb esmq ew0 elawq etx ekq exq egq epsq epdq ewq efq ejq eeq_ efo esl esz f0_fx f0_tf f0_s_gq f0_s_wq f0_s_fq f0_s_jq f0_s_eq (by omega) vw_0 (by rw [show fI s.heap fq x2.toNatClampNeg = x837 from ex837.symm, show fI s.heap eq_ x2.toNatClampNeg = x841 from ex841.symm, show fI s.heap wq x2.toNatClampNeg = x845 from ex845.symm, show fI s.heap jq x2.toNatClampNeg = x853 from ex853.symm]; exact liV_a (by omega) (by rw [← kd2_]; omega) (by rw [v00]; omega))
    · have k851 := i_eq c850
      refine lv_aload_n hx hb dX9_doLine_58 rfl (lv_at hl843 2 rfl) ?_
      refine lv_aload_n hx hb dX9_doLine_59 rfl (lv_at hl843 5 rfl) ?_
      refine lv_iload hx hb dX9_doLine_60 (lv_at hl843 1 rfl) ?_
      refine lv_iload hx hb dX9_doLine_62 (lv_at hl843 0 rfl) ?_
      refine x_V (As := [.ref a3, .int x837, .int x841]) (rest := []) C (a_X9_takeOff_v l K G s.heap (x837) (x841) (pcn) (lb) (fo) (sl) (sz) (fsE) (fwE) hT ga0 ga3 gsmq esmq gw0 ew0 glawq elawq gtx etx gkq ekq gxq exq ggq egq gpsq epsq gpdq epdq epcn elb efo esl esz (by omega) ((TXC.frm hT gtx f0_tf hy0)) ((fun j hj => by rw [f0_s_gq j]; exact hy1 j hj))) yo_X9_takeOff wM_X9_170 ⟨⟨by decide, by decide⟩, by decide, by decide⟩ (x_rv C hT (ci := 9) rfl ga0 rg_68) rfl hl843.1 rfl (Nat.le_of_ble_eq_true rfl) dX9_doLine_64 hS (AE_sub (fun _ _ => rfl) (by decide) hS.1) (fun vH867 H867 locsH867 pH867 zH867 kH867 hSH867 => ?_)
      obtain ⟨x868, x869, x870, hvH867, ex869, ex870, m871, m872, m873, m874, m875, m876, m877, m878, m879, hTH867⟩ := pH867
      subst hvH867
      have f880 : ∀ q t : Nat, G q = some t → t ≠ 83 → t ≠ 84 → q ≠ a3 → q ≠ kq → q ≠ xq → q ≠ psq → q ≠ pdq → H867[q]? = s.heap[q]? := (fun q t hq h1 h2 n1 n2 n3 n4 n5 => (x_lt hT kH867 hq (by first | omega | (intro z; simp only [List.mem_cons, List.not_mem_nil, or_false] at z <;> omega))).trans (f0_fx q t hq h1 h2 n1 n2 n3 n4 n5))
      have f881 : TXF G H867 s.heap := (fun q t hq h1 h2 => (x_lt hT kH867 hq (by first | omega | (intro z; simp only [List.mem_cons, List.not_mem_nil, or_false] at z <;> omega))).trans (f0_tf q t hq h1 h2))
      have f882 : ∀ j : Nat, fI H867 gq j = fI s.heap gq j := fun j => (fI_kept (x_lt hT kH867 ggq (by decide))).trans (f0_s_gq j)
      have f883 : ∀ j : Nat, fI H867 wq j = fI s.heap wq j := fun j => (fI_kept (x_lt hT kH867 gwq (by decide))).trans (f0_s_wq j)
      have f884 : ∀ j : Nat, fI H867 fq j = fI s.heap fq j := fun j => (fI_kept (x_lt hT kH867 gfq (by decide))).trans (f0_s_fq j)
      have f885 : ∀ j : Nat, fI H867 jq j = fI s.heap jq j := fun j => (fI_kept (x_lt hT kH867 gjq (by decide))).trans (f0_s_jq j)
      have f886 : ∀ j : Nat, fI H867 eq_ j = fI s.heap eq_ j := fun j => (fI_kept (x_lt hT kH867 geq_ (by decide))).trans (f0_s_eq j)
      have m887 := (esmq).trans (fR_kept (x_lt hT kH867 ga0 (by decide))).symm
      have m888 := (ew0).trans (fR_kept (x_lt hT kH867 ga0 (by decide))).symm
      have m889 := (elawq).trans (fR_kept (x_lt hT kH867 gw0 (by decide))).symm
      have m890 := (etx).trans (fR_kept (x_lt hT kH867 glawq (by decide))).symm
      have m891 := (ewq).trans (fR_kept (x_lt hT kH867 ga1 (by decide))).symm
      have m892 := (efq).trans (fR_kept (x_lt hT kH867 ga1 (by decide))).symm
      have m893 := (ejq).trans (fR_kept (x_lt hT kH867 ga1 (by decide))).symm
      have m894 := (eeq_).trans (fR_kept (x_lt hT kH867 ga1 (by decide))).symm
      have m895 := (efo).trans (fI_kept (x_lt hT kH867 gw0 (by decide))).symm
      have m896 := (esl).trans (fI_kept (x_lt hT kH867 gw0 (by decide))).symm
      have m897 := (ex837).trans (fI_kept (x_lt hT kH867 gfq (by decide))).symm
      have m898 := (ex841).trans (fI_kept (x_lt hT kH867 geq_ (by decide))).symm
      have m899 := (ex845).trans (fI_kept (x_lt hT kH867 gwq (by decide))).symm
      have bx869 := ty_fi (x := x869) (k := 8) ex869 hTH867 ga3 rg_1 rfl
      have bx870 := ty_fi (x := x870) (k := 9) ex870 hTH867 ga3 rg_1 rfl
      have vw900 : vwC K H867 a3 = (paV (tlC K s.heap tx fsE fwE) sl.toInt (vwC K s.heap a3) x837.toInt x841.toInt) := by rw [m877, tlC_frm hT gtx f0_tf, vw_0]
      have f901 : ∀ q t : Nat, G q = some t → t ≠ 83 → t ≠ 84 → q ≠ a3 → q ≠ kq → q ≠ xq → q ≠ psq → q ≠ pdq → H867[q]? = s.heap[q]? := fun q t hq h1 h2 n1 n2 n3 n4 n5 => (m879 q t hq h1 h2 n1 (by rw [← show kq = kq from rfl] ; exact n2) (by rw [← show psq = psq from rfl]; exact n4) (by rw [← show pdq = pdq from rfl]; exact n5)).trans (f0_fx q t hq h1 h2 n1 n2 n3 n4 n5)
      have f902 : TXF G H867 s.heap := fun q t hq h1 h2 => (m879 q t hq (by omega) (by omega) (G_ne hq ga3 (by omega)) (G_ne hq gkq (by omega)) (G_ne hq gpsq (by omega)) (G_ne hq gpdq (by omega))).trans (f0_tf q t hq h1 h2)
      refine W.eq (g2 := F0 m 67 ls842 [.int x868]) rfl ?_
      refine lv_pop hx hb dX9_doLine_67 rfl ?_
      refine lv_goto (tgt := 137) hx hb dX9_doLine_68 (by decide) ?_
      have cn_x2 := i_cl (x := x2) (by omega)
      exact x_vret C hQ dX9_doLine_137 hSH867 (by decide) (by decide) (⟨x869, x870, rfl, ex869, ex870, m871, m872, m873, m874, m875, m876, (vw900.trans (by rw [show fI s.heap fq x2.toNatClampNeg = x837 from ex837.symm, show fI s.heap eq_ x2.toNatClampNeg = x841 from ex841.symm, show fI s.heap wq x2.toNatClampNeg = x845 from ex845.symm]; exact (liV_s (by omega)).symm)), f901, hTH867⟩)
  · have k847 := i_eq c846
    refine lv_aload_n hx hb dX9_doLine_27 rfl (lv_at hl843 5 rfl) ?_
    refine lv_iload hx hb dX9_doLine_28 (lv_at hl843 1 rfl) ?_
    refine x_V (As := [.int x837]) (rest := []) C (a_X0_has_v l K G s.heap (x837) (sz) hT ga3 esz) yo_X0_has wM_X9_82 ⟨⟨by decide, by decide⟩, by decide, by decide⟩ (x_rv C hT (ci := 0) rfl ga3 rg_1) rfl hl843.1 rfl (Nat.le_of_ble_eq_true rfl) dX9_doLine_30 hS (AE_sub (fun _ _ => rfl) (by decide) hS.1) (fun vH903 H903 locsH903 pH903 zH903 kH903 hSH903 => ?_)
    obtain ⟨x904, hvH903, bx904, hrH903, hTH903⟩ := pH903
    subst hvH903
    have f905 : ∀ q t : Nat, G q = some t → t ≠ 83 → t ≠ 84 → q ≠ a3 → q ≠ kq → q ≠ xq → q ≠ psq → q ≠ pdq → H903[q]? = s.heap[q]? := (fun q t hq h1 h2 n1 n2 n3 n4 n5 => (x_lt hT kH903 hq (by first | omega | (intro z; simp only [List.mem_cons, List.not_mem_nil, or_false] at z <;> omega))).trans (f0_fx q t hq h1 h2 n1 n2 n3 n4 n5))
    have f906 : TXF G H903 s.heap := (fun q t hq h1 h2 => (x_lt hT kH903 hq (by first | omega | (intro z; simp only [List.mem_cons, List.not_mem_nil, or_false] at z <;> omega))).trans (f0_tf q t hq h1 h2))
    have f907 : ∀ j : Nat, fI H903 gq j = fI s.heap gq j := fun j => (fI_kept (x_lt hT kH903 ggq (by decide))).trans (f0_s_gq j)
    have f908 : ∀ j : Nat, fI H903 wq j = fI s.heap wq j := fun j => (fI_kept (x_lt hT kH903 gwq (by decide))).trans (f0_s_wq j)
    have f909 : ∀ j : Nat, fI H903 fq j = fI s.heap fq j := fun j => (fI_kept (x_lt hT kH903 gfq (by decide))).trans (f0_s_fq j)
    have f910 : ∀ j : Nat, fI H903 jq j = fI s.heap jq j := fun j => (fI_kept (x_lt hT kH903 gjq (by decide))).trans (f0_s_jq j)
    have f911 : ∀ j : Nat, fI H903 eq_ j = fI s.heap eq_ j := fun j => (fI_kept (x_lt hT kH903 geq_ (by decide))).trans (f0_s_eq j)
    have m912 := (esmq).trans (fR_kept (x_lt hT kH903 ga0 (by decide))).symm
    have m913 := (ew0).trans (fR_kept (x_lt hT kH903 ga0 (by decide))).symm
    have m914 := (elawq).trans (fR_kept (x_lt hT kH903 gw0 (by decide))).symm
    have m915 := (etx).trans (fR_kept (x_lt hT kH903 glawq (by decide))).symm
    have m916 := (ekq).trans (fR_kept (x_lt hT kH903 ga3 (by decide))).symm
    have m917 := (exq).trans (fR_kept (x_lt hT kH903 ga3 (by decide))).symm
    have m918 := (egq).trans (fR_kept (x_lt hT kH903 ga3 (by decide))).symm
    have m919 := (epsq).trans (fR_kept (x_lt hT kH903 ga3 (by decide))).symm
    have m920 := (epdq).trans (fR_kept (x_lt hT kH903 ga3 (by decide))).symm
    have m921 := (ewq).trans (fR_kept (x_lt hT kH903 ga1 (by decide))).symm
    have m922 := (efq).trans (fR_kept (x_lt hT kH903 ga1 (by decide))).symm
    have m923 := (ejq).trans (fR_kept (x_lt hT kH903 ga1 (by decide))).symm
    have m924 := (eeq_).trans (fR_kept (x_lt hT kH903 ga1 (by decide))).symm
    have m925 := (epcn).trans (fI_kept (x_lt hT kH903 ga3 (by decide))).symm
    have m926 := (elb).trans (fI_kept (x_lt hT kH903 ga3 (by decide))).symm
    have m927 := (efo).trans (fI_kept (x_lt hT kH903 gw0 (by decide))).symm
    have m928 := (esl).trans (fI_kept (x_lt hT kH903 gw0 (by decide))).symm
    have m929 := (esz).trans (fI_kept (x_lt hT kH903 ga3 (by decide))).symm
    have m930 := (ex837).trans (fI_kept (x_lt hT kH903 gfq (by decide))).symm
    have m931 := (ex841).trans (fI_kept (x_lt hT kH903 geq_ (by decide))).symm
    have m932 := (ex845).trans (fI_kept (x_lt hT kH903 gwq (by decide))).symm
    have vw933 : vwC K H903 a3 = (vwC K s.heap a3) := (vw_frm hT ga3 (fun q t hq h1 h2 => x_lt hT kH903 hq (by first | omega | (intro z; simp only [List.mem_cons, List.not_mem_nil, or_false] at z <;> omega)))).trans vw_0
    refine W.eq (g2 := F0 m 33 ls842 [.int x904]) rfl ?_
    refine lv_if_eq (tgt := 137) hx hb dX9_doLine_33 (by decide) (fun c934 => ?_) (fun c934 => ?_)
    · have k935 := i_eq c934
      have cn_x2 := i_cl (x := x2) (by omega)
      exact x_vret C hQ dX9_doLine_137 hSH903 (by decide) (by decide) (⟨pcn, lb, rfl, m925, m926, m916, m917, m918, m919, m920, m929, (vw933.trans (by rw [show fI s.heap fq x2.toNatClampNeg = x837 from ex837.symm, show fI s.heap eq_ x2.toNatClampNeg = x841 from ex841.symm, show fI s.heap wq x2.toNatClampNeg = x845 from ex845.symm]; exact (liV_w0 (by omega) (by rw [v00]; omega)).symm)), f905, hTH903⟩)
    · have k935 := i_ne c934
      refine lv_aload_n hx hb dX9_doLine_36 rfl (lv_at hl843 5 rfl) ?_
      refine x_gr C hTH903 (ci := 0) (k := 4) rfl inX0 (by decide) wF_X9_102 ga3 rg_1 rfl dX9_doLine_37 (fun q936 eq936 gq936 => ?_)
      have uq936 : xq = q936 := (m917).trans eq936.symm
      subst uq936
      refine lv_iload hx hb dX9_doLine_40 (lv_at hl843 1 rfl) ?_
      refine lv_iload hx hb dX9_doLine_42 (lv_at hl843 0 rfl) ?_
      refine x_iast C hTH903 hSH903 gxq rg_5 (by omega) (by show _ < ((16 : Nat) : Int); omega) ⟨by have := i_rng x841; omega, by have := i_rng x841; omega⟩ (AE_in gxq (by decide)) dX9_doLine_44 (fun H937 locsH937 hTH937 hSH937 wH937 => ?_)
      have f938 : ∀ q t : Nat, G q = some t → t ≠ 83 → t ≠ 84 → q ≠ a3 → q ≠ kq → q ≠ xq → q ≠ psq → q ≠ pdq → H937[q]? = s.heap[q]? := (fun q t hq h1 h2 n1 n2 n3 n4 n5 => (wH937.off n3).trans (f905 q t hq h1 h2 n1 n2 n3 n4 n5))
      have f939 : TXF G H937 s.heap := (fun q t hq h1 h2 => (wH937.off (G_ne hq gxq (by first | omega | (intro z; simp only [List.mem_cons, List.not_mem_nil, or_false] at z <;> omega)))).trans (f906 q t hq h1 h2))
      have f940 : ∀ j : Nat, fI H937 gq j = fI s.heap gq j := fun j => (Wr.neI wH937 (Or.inl (G_ne ggq gxq (by decide)))).trans (f907 j)
      have f941 : ∀ j : Nat, fI H937 wq j = fI s.heap wq j := fun j => (Wr.neI wH937 (Or.inl (G_ne gwq gxq (by decide)))).trans (f908 j)
      have f942 : ∀ j : Nat, fI H937 fq j = fI s.heap fq j := fun j => (Wr.neI wH937 (Or.inl (G_ne gfq gxq (by decide)))).trans (f909 j)
      have f943 : ∀ j : Nat, fI H937 jq j = fI s.heap jq j := fun j => (Wr.neI wH937 (Or.inl (G_ne gjq gxq (by decide)))).trans (f910 j)
      have f944 : ∀ j : Nat, fI H937 eq_ j = fI s.heap eq_ j := fun j => (Wr.neI wH937 (Or.inl (G_ne geq_ gxq (by decide)))).trans (f911 j)
      have m945 := m912.trans (Wr.neR wH937 (Or.inl (G_ne ga0 gxq (by decide)))).symm
      have m946 := m913.trans (Wr.neR wH937 (Or.inl (G_ne ga0 gxq (by decide)))).symm
      have m947 := m914.trans (Wr.neR wH937 (Or.inl (G_ne gw0 gxq (by decide)))).symm
      have m948 := m915.trans (Wr.neR wH937 (Or.inl (G_ne glawq gxq (by decide)))).symm
      have m949 := m916.trans (Wr.neR wH937 (Or.inl (G_ne ga3 gxq (by decide)))).symm
      have m950 := m917.trans (Wr.neR wH937 (Or.inl (G_ne ga3 gxq (by decide)))).symm
      have m951 := m918.trans (Wr.neR wH937 (Or.inl (G_ne ga3 gxq (by decide)))).symm
      have m952 := m919.trans (Wr.neR wH937 (Or.inl (G_ne ga3 gxq (by decide)))).symm
      have m953 := m920.trans (Wr.neR wH937 (Or.inl (G_ne ga3 gxq (by decide)))).symm
      have m954 := m921.trans (Wr.neR wH937 (Or.inl (G_ne ga1 gxq (by decide)))).symm
      have m955 := m922.trans (Wr.neR wH937 (Or.inl (G_ne ga1 gxq (by decide)))).symm
      have m956 := m923.trans (Wr.neR wH937 (Or.inl (G_ne ga1 gxq (by decide)))).symm
      have m957 := m924.trans (Wr.neR wH937 (Or.inl (G_ne ga1 gxq (by decide)))).symm
      have m958 := m925.trans (Wr.neI wH937 (Or.inl (G_ne ga3 gxq (by decide)))).symm
      have m959 := m926.trans (Wr.neI wH937 (Or.inl (G_ne ga3 gxq (by decide)))).symm
      have m960 := m927.trans (Wr.neI wH937 (Or.inl (G_ne gw0 gxq (by decide)))).symm
      have m961 := m928.trans (Wr.neI wH937 (Or.inl (G_ne gw0 gxq (by decide)))).symm
      have m962 := m929.trans (Wr.neI wH937 (Or.inl (G_ne ga3 gxq (by decide)))).symm
      have m963 := m930.trans (Wr.neI wH937 (Or.inl (G_ne gfq gxq (by decide)))).symm
      have m964 := m931.trans (Wr.neI wH937 (Or.inl (G_ne geq_ gxq (by decide)))).symm
      have m965 := m932.trans (Wr.neI wH937 (Or.inl (G_ne gwq gxq (by decide)))).symm
      have m966 := Wr.I wH937
      have m966 := m966.symm
      have vw967 : vwC K H937 a3 = (upV (vwC K s.heap a3) 4 x837.toNatClampNeg x841.toInt) := by rw [vw_arr hTH903 ga3 wH937 m917 (by decide) rfl, vw933]
      refine lv_goto (tgt := 137) hx hb dX9_doLine_45 (by decide) ?_
      have cn_x2 := i_cl (x := x2) (by omega)
      exact x_vret C hQ dX9_doLine_137 hSH937 (by decide) (by decide) (⟨pcn, lb, rfl, m958, m959, m949, m950, m951, m952, m953, m962, (vw967.trans (by rw [show fI s.heap fq x2.toNatClampNeg = x837 from ex837.symm, show fI s.heap eq_ x2.toNatClampNeg = x841 from ex841.symm, show fI s.heap wq x2.toNatClampNeg = x845 from ex845.symm]; exact (liV_w (n := x837.toNatClampNeg) (by omega) (by rw [v00]; omega) rfl).symm)), f938, hTH937⟩)
