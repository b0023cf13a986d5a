theorem arV_go {T : TF} {sl am mi s s1 d : Int} {n m : Nat} {v : BW} (hn : n = m + 1) (hs : s1 = s + 1) (hd : (0 ≤ s - mi ∧ d = am - (s - mi)) ∨ (s - mi < 0 ∧ d = am - (mi - s))) : arV T sl am mi n s v = arV T sl am mi m s1 (paV T sl v s d) := by
  subst hn; subst hs
  show arV T sl am mi m (s + 1) (paV T sl v s (am - (if s - mi < 0 then mi - s else s - mi))) = _
  rw [show am - (if s - mi < 0 then mi - s else s - mi) = d by split <;> omega]
theorem arV_end {T : TF} {sl am mi s : Int} {n : Nat} {v : BW} (hn : n = 0) : arV T sl am mi n s v = v := by subst hn; rfl
theorem liV_w {T : TF} {sl wd i j am : Int} {v : BW} {n : Nat} (h : wd = 6) (hi : 0 ≤ i ∧ i < v 0 0) (hn : n = i.toNat) : liV T sl wd i j am v = upV v 4 n am := by subst hn; unfold liV; rw [if_pos h, if_pos hi]
theorem liV_w0 {T : TF} {sl wd i j am : Int} {v : BW} (h : wd = 6) (hi : ¬ (0 ≤ i ∧ i < v 0 0)) : liV T sl wd i j am v = v := by unfold liV; rw [if_pos h, if_neg hi]
theorem liV_s {T : TF} {sl wd i j am : Int} {v : BW} (h : wd = 4) : liV T sl wd i j am v = paV T sl v i am := by unfold liV; rw [if_neg (by omega), if_pos h]
theorem liV_a {T : TF} {sl wd i j am mi : Int} {v : BW} {n : Nat} (h : wd ≠ 4 ∧ wd ≠ 6) (hm : mi = (i + j) / 2) (hn : n = (min (j + 1) (v 0 0) - i).toNat) : liV T sl wd i j am v = arV T sl am mi n i v := by subst hm; subst hn; unfold liV; rw [if_neg h.2, if_neg h.1]
set_option maxHeartbeats 4000000 in
set_option maxRecDepth 100000 in
theorem a_X9_doLine_v (l : Launch) (K : KE) (G : Nat → Option Nat) (H : Heap) {a0 : Nat} {a1 : Nat} (x2 : Int32) {a3 : Nat} {smq : Nat} {w0 : Nat} {lawq : Nat} {tx : Nat} {kq : Nat} {xq : Nat} {gq : Nat} {psq : Nat} {pdq : Nat} {wq : Nat} {fq : Nat} {jq : Nat} {eq_ : Nat} (pcn : Int32) (lb : Int32) (fo : Int32) (sl : Int32) (sz : Int32) (fsE : Nat → EF) (fwE : Nat → EF) (hT : TY K G H) (ga0 : G a0 = some 68) (ga1 : G a1 = some 16) (hx2 : 0 ≤ x2.toInt ∧ x2.toInt ≤ 15) (ga3 : G a3 = some 1) (gsmq : G smq = some 82) (esmq : smq = fR H a0 (K.1.2 9 5)) (gw0 : G w0 = some 0) (ew0 : w0 = fR H a0 (K.1.2 9 0)) (glawq : G lawq = some 26) (elawq : lawq = fR H w0 (K.1.2 8 2)) (gtx : G tx = some 16) (etx : tx = fR H lawq (fo : Int32).toNatClampNeg) (gkq : G kq = some 2) (ekq : kq = fR H a3 (K.1.2 0 1)) (gxq : G xq = some 5) (exq : xq = fR H a3 (K.1.2 0 4)) (ggq : G gq = some 6) (egq : gq = fR H a3 (K.1.2 0 5)) (gpsq : G psq = some 7) (epsq : psq = fR H a3 (K.1.2 0 6)) (gpdq : G pdq = some 8) (epdq : pdq = fR H a3 (K.1.2 0 7)) (gwq : G wq = some 17) (ewq : wq = fR H a1 (K.1.2 7 1)) (gfq : G fq = some 18) (efq : fq = fR H a1 (K.1.2 7 2)) (gjq : G jq = some 19) (ejq : jq = fR H a1 (K.1.2 7 3)) (geq_ : G eq_ = some 20) (eeq_ : eq_ = fR H a1 (K.1.2 7 4)) (epcn : pcn = fI H a3 (K.1.2 0 8)) (elb : lb = fI H a3 (K.1.2 0 9)) (efo : fo = fI H w0 (K.1.2 8 4)) (esl : sl = fI H w0 (K.1.2 8 5)) (esz : sz = fI H a3 (K.1.2 0 0)) (hp0 : 0 ≤ sl.toInt ∧ sl.toInt ≤ 9999) (hp1 : 3 ≤ sz.toInt) (hy0 : TXC K H tx 1 fsE fwE) (hy1 : ∀ j : Nat, j < 3 → 0 ≤ (fI H gq j).toInt ∧ (fI H gq j).toInt ≤ 999999) (hy2 : 0 ≤ (fI H fq x2.toNatClampNeg).toInt ∧ (fI H fq x2.toNatClampNeg).toInt ≤ 15 ∧ ((fI H wq x2.toNatClampNeg).toInt = 4 ∨ (fI H wq x2.toNatClampNeg).toInt = 6 ∨ (0 ≤ (fI H jq x2.toNatClampNeg).toInt ∧ (fI H jq x2.toNatClampNeg).toInt ≤ 15)) ∧ 0 ≤ (fI H eq_ x2.toNatClampNeg).toInt ∧ (fI H eq_ x2.toNatClampNeg).toInt ≤ 99) : MX l K yX9_doLine cX9_doLine 9 none 6 149 0 0 [.ref a0, .ref a1, .int x2, .ref a3] H (AE G [1, 2, 7, 8, 83, 84, 5] H.size) (fun v H1 => ∃ (t0 : Int32) (t1 : Int32), v = none ∧ t0 = fI H1 a3 (K.1.2 0 8) ∧ t1 = fI H1 a3 (K.1.2 0 9) ∧ kq = fR H1 a3 (K.1.2 0 1) ∧ xq = fR H1 a3 (K.1.2 0 4) ∧ gq = fR H1 a3 (K.1.2 0 5) ∧ psq = fR H1 a3 (K.1.2 0 6) ∧ pdq = fR H1 a3 (K.1.2 0 7) ∧ sz = fI H1 a3 (K.1.2 0 0) ∧ (vwC K H1 a3 = liV (tlC K H tx fsE fwE) sl.toInt (fI H wq x2.toNatClampNeg).toInt (fI H fq x2.toNatClampNeg).toInt (fI H jq x2.toNatClampNeg).toInt (fI H eq_ x2.toNatClampNeg).toInt (vwC K H a3)) ∧ (∀ q t : Nat, G q = some t → t ≠ 83 → t ≠ 84 → q ≠ a3 → q ≠ kq → q ≠ xq → q ≠ psq → q ≠ pdq → H1[q]? = H[q]?) ∧ (RFB K H1 H a3) ∧ TY K G H1) := by
  refine MX.of (by decide +kernel) (Nat.le_of_ble_eq_true rfl) ?_
  intro p e s m below meth c ls Q C hH hl hQ
  subst hH
  have C : CX p K s m _ meth c RX9 cX9_doLine 9 none "doLine" := C
  obtain ⟨hx, hb, hml, hown, hts, hKT, hr, hlocks, hnm⟩ := id C
  have hl : lv_has ls 9 [(0, .ref a0), (1, .ref a1), (2, .int x2), (3, .ref a3)] := hl
  have hS : va_S (AE G [1, 2, 7, 8, 83, 84, 5] s.heap.size) s.heap s.heap [] := va_S.rf
  have n_0 : (0 : Int32).toInt = 0 := rfl
  have n_1 : (1 : Int32).toInt = 1 := rfl
  have n_2 : (2 : Int32).toInt = 2 := rfl
  have n_4 : (4 : Int32).toInt = 4 := rfl
  have n_6 : (6 : Int32).toInt = 6 := rfl
  have bpcn := ty_fi (x := pcn) (k := 8) epcn hT ga3 rg_1 rfl
  have blb := ty_fi (x := lb) (k := 9) elb hT ga3 rg_1 rfl
  have bfo := ty_fi (x := fo) (k := 4) efo hT gw0 rg_0 rfl
  have bsl := ty_fi (x := sl) (k := 5) esl hT gw0 rg_0 rfl
  have bsz := ty_fi (x := sz) (k := 0) esz hT ga3 rg_1 rfl
  have hapB : ∀ x y, x < 18 → y < 18 → x ≠ y → K.1.2 0 x ≠ K.1.2 0 y := x_apart hKT hts inX0 tyX0 tyX0_ok nmX0 rfl
  have vw_0 : vwC K s.heap a3 = vwC K s.heap a3 := rfl
  have v00 : vwC K s.heap a3 0 0 = sz.toInt := by rw [vwC_f (Or.inl rfl), ← esz]
  have f0_fx : ∀ q t : Nat, G q = some t → t ≠ 83 → t ≠ 84 → q ≠ a3 → q ≠ kq → q ≠ xq → q ≠ psq → q ≠ pdq → s.heap[q]? = s.heap[q]? := fun _ _ _ _ _ _ _ _ _ _ => rfl
  have f0_tf : TXF G s.heap s.heap := TXF.rf
  have f0_rb : RFB K s.heap s.heap a3 := RFB.rf
  have f0_s_gq : ∀ j : Nat, fI s.heap gq j = fI s.heap gq j := fun _ => rfl
  have f0_s_wq : ∀ j : Nat, fI s.heap wq j = fI s.heap wq j := fun _ => rfl
  have f0_s_fq : ∀ j : Nat, fI s.heap fq j = fI s.heap fq j := fun _ => rfl
  have f0_s_jq : ∀ j : Nat, fI s.heap jq j = fI s.heap jq j := fun _ => rfl
  have f0_s_eq : ∀ j : Nat, fI s.heap eq_ j = fI s.heap eq_ j := fun _ => rfl
  have J105 : ∀ (nf : Nat) (vb : BW) (ls838 : Array Slot) (H837 : Heap) (locsH837 : List Loc) (x840 : Int32) (x841 : Int32) (x842 : Int32) (x843 : Int32) (x844 : Int32) (x845 : Int32), lv_has ls838 9 [(0, .ref a0), (3, .ref a3), (5, .int x840), (6, .int x841), (7, .int x842), (8, .int x843)] → TY K G H837 → va_S (AE G [1, 2, 7, 8, 83, 84, 5] s.heap.size) s.heap H837 locsH837 → (0 ≤ x840.toInt ∧ x840.toInt ≤ 99) → (0 ≤ x841.toInt ∧ x841.toInt ≤ 15) → (0 ≤ x842.toInt ∧ x842.toInt ≤ 15) → (0 ≤ x843.toInt ∧ x843.toInt ≤ 16) → (0 ≤ x844.toInt ∧ x844.toInt ≤ 200) → (x844 = fI H837 a3 (K.1.2 0 8)) → (x845 = fI H837 a3 (K.1.2 0 9)) → (smq = fR H837 a0 (K.1.2 9 5)) → (w0 = fR H837 a0 (K.1.2 9 0)) → (lawq = fR H837 w0 (K.1.2 8 2)) → (tx = fR H837 lawq (fo : Int32).toNatClampNeg) → (kq = fR H837 a3 (K.1.2 0 1)) → (xq = fR H837 a3 (K.1.2 0 4)) → (gq = fR H837 a3 (K.1.2 0 5)) → (psq = fR H837 a3 (K.1.2 0 6)) → (pdq = fR H837 a3 (K.1.2 0 7)) → (wq = fR H837 a1 (K.1.2 7 1)) → (fq = fR H837 a1 (K.1.2 7 2)) → (jq = fR H837 a1 (K.1.2 7 3)) → (eq_ = fR H837 a1 (K.1.2 7 4)) → (fo = fI H837 w0 (K.1.2 8 4)) → (sl = fI H837 w0 (K.1.2 8 5)) → (sz = fI H837 a3 (K.1.2 0 0)) → (∀ q t : Nat, G q = some t → t ≠ 83 → t ≠ 84 → q ≠ a3 → q ≠ kq → q ≠ xq → q ≠ psq → q ≠ pdq → H837[q]? = s.heap[q]?) → (TXF G H837 s.heap) → (RFB K H837 s.heap a3) → (∀ j : Nat, fI H837 gq j = fI s.heap gq j) → (∀ j : Nat, fI H837 wq j = fI s.heap wq j) → (∀ j : Nat, fI H837 fq j = fI s.heap fq j) → (∀ j : Nat, fI H837 jq j = fI s.heap jq j) → (∀ j : Nat, fI H837 eq_ j = fI s.heap eq_ j) → (16 - x843.toInt < (nf : Int)) → (vwC K H837 a3 = vb) → (liV (tlC K s.heap tx fsE fwE) sl.toInt (fI s.heap wq x2.toNatClampNeg).toInt (fI s.heap fq x2.toNatClampNeg).toInt (fI s.heap jq x2.toNatClampNeg).toInt (fI s.heap eq_ x2.toNatClampNeg).toInt (vwC K s.heap a3) = arV (tlC K s.heap tx fsE fwE) sl.toInt x840.toInt x842.toInt (x841.toInt + 1 - x843.toInt).toNat x843.toInt vb) → W p l e ({ frames := 6, cells := 0, slots := 0, locals := 149 } : Room) s m (([.ref a0, .ref a1, .int x2, .ref a3] : List Value).toArray) below meth c H837 locsH837 0 0 Q (F0 m 105 ls838 []) := by
    intro nf
    induction nf with
    | zero =>
      intro vb ls838 H837 locsH837 x840 x841 x842 x843 x844 x845 hl839 hTH837 hSH837 bx840 bx841 bx842 bx843 bx844 ex844 ex845 cy846_0 cy846_1 cy846_2 cy846_3 cy846_4 cy846_5 cy846_6 cy846_7 cy846_8 cy846_9 cy846_10 cy846_11 cy846_12 cy846_13 cy846_14 cy846_15 fy846_fx fy846_tf fy846_rb fy846_s_gq fy846_s_wq fy846_s_fq fy846_s_jq fy846_s_eq hm105 hvb105 hsp105
      have rx845 := i_rng x845
      exfalso
      omega
    | succ nf ih105 =>
      intro vb ls838 H837 locsH837 x840 x841 x842 x843 x844 x845 hl839 hTH837 hSH837 bx840 bx841 bx842 bx843 bx844 ex844 ex845 cy846_0 cy846_1 cy846_2 cy846_3 cy846_4 cy846_5 cy846_6 cy846_7 cy846_8 cy846_9 cy846_10 cy846_11 cy846_12 cy846_13 cy846_14 cy846_15 fy846_fx fy846_tf fy846_rb fy846_s_gq fy846_s_wq fy846_s_fq fy846_s_jq fy846_s_eq hm105 hvb105 hsp105
      have rx845 := i_rng x845
      refine lv_iload hx hb dX9_doLine_105 (lv_at hl839 5 rfl) ?_
      refine lv_iload hx hb dX9_doLine_107 (lv_at hl839 3 rfl) ?_
      refine lv_icmp_gt (tgt := 137) hx hb dX9_doLine_109 (by decide) (fun c847 => ?_) (fun c847 => ?_)
      · have k848 := i_lt c847
        have cn_x2 := i_cl (x := x2) (by omega)
        exact x_vret C hQ dX9_doLine_137 hSH837 (by decide) (by decide) (⟨x844, x845, rfl, ex844, ex845, cy846_4, cy846_5, cy846_6, cy846_7, cy846_8, cy846_15, (hvb105.trans ((arV_end (by omega)).symm.trans hsp105.symm)), fy846_fx, fy846_rb, hTH837⟩)
      · have k848 := i_nlt c847
        refine lv_aload_n hx hb dX9_doLine_112 rfl (lv_at hl839 0 rfl) ?_
        refine lv_aload_n hx hb dX9_doLine_113 rfl (lv_at hl839 1 rfl) ?_
        refine lv_iload hx hb dX9_doLine_114 (lv_at hl839 5 rfl) ?_
        refine lv_iload hx hb dX9_doLine_116 (lv_at hl839 2 rfl) ?_
        refine lv_iload hx hb dX9_doLine_118 (lv_at hl839 5 rfl) ?_
        refine lv_iload hx hb dX9_doLine_120 (lv_at hl839 4 rfl) ?_
        refine lv_isub hx hb dX9_doLine_122 ?_
        refine lv_topi (fun x849 ex849 => ?_)
        have tx849 := i_sub ex849 (by omega)
        refine va_mabs hx hb (hml.trans hl839.1.symm) hown (hts _ wM_X9_362) (hts _ wST_J9_abs_0f7a4) (hts _ wIN_J9) (hts _ wCD_J9_abs_0f7a4) (by decide) (Nat.le_of_ble_eq_true rfl) (by decide) (by decide) dX9_doLine_123 ?_
        refine lv_topi (fun x850 ex850 => ?_)
        have tx850 := i_abs ex850 (by omega)
        refine lv_isub hx hb dX9_doLine_126 ?_
        refine lv_topi (fun x851 ex851 => ?_)
        have tx851 := i_sub ex851 (by omega)
        refine x_V (As := [.ref a3, .int x843, .int x851]) (rest := []) C (a_X9_takeOff_v l K G H837 (x843) (x851) (x844) (x845) (fo) (sl) (sz) (fsE) (fwE) hTH837 ga0 ga3 gsmq cy846_0 gw0 cy846_1 glawq cy846_2 gtx cy846_3 gkq cy846_4 gxq cy846_5 ggq cy846_6 gpsq cy846_7 gpdq cy846_8 ex844 ex845 cy846_13 cy846_14 cy846_15 (by omega) ((TXC.frm hT gtx fy846_tf hy0)) ((fun j hj => by rw [fy846_s_gq j]; exact hy1 j hj))) yo_X9_takeOff wM_X9_170 ⟨⟨by decide, by decide⟩, by decide, by decide⟩ (x_rv C hTH837 (ci := 9) rfl ga0 rg_68) rfl hl839.1 rfl (Nat.le_of_ble_eq_true rfl) dX9_doLine_127 hSH837 (AE_sub (fun _ _ => rfl) (by decide) hSH837.1) (fun vH852 H852 locsH852 pH852 zH852 kH852 hSH852 => ?_)
        obtain ⟨x853, x854, x855, hvH852, ex854, ex855, m856, m857, m858, m859, m860, m861, m862, m863, m864, m865, hTH852⟩ := pH852
        subst hvH852
        have f866 : TXF G H852 s.heap := (fun q t hq h1 h2 => (x_lt hTH837 kH852 hq (by first | omega | (intro z; simp only [List.mem_cons, List.not_mem_nil, or_false] at z <;> omega))).trans (fy846_tf q t hq h1 h2))
        have f867 : ∀ j : Nat, fI H852 gq j = fI s.heap gq j := fun j => (fI_kept (x_lt hTH837 kH852 ggq (by decide))).trans (fy846_s_gq j)
        have f868 : ∀ j : Nat, fI H852 wq j = fI s.heap wq j := fun j => (fI_kept (x_lt hTH837 kH852 gwq (by decide))).trans (fy846_s_wq j)
        have f869 : ∀ j : Nat, fI H852 fq j = fI s.heap fq j := fun j => (fI_kept (x_lt hTH837 kH852 gfq (by decide))).trans (fy846_s_fq j)
        have f870 : ∀ j : Nat, fI H852 jq j = fI s.heap jq j := fun j => (fI_kept (x_lt hTH837 kH852 gjq (by decide))).trans (fy846_s_jq j)
        have f871 : ∀ j : Nat, fI H852 eq_ j = fI s.heap eq_ j := fun j => (fI_kept (x_lt hTH837 kH852 geq_ (by decide))).trans (fy846_s_eq j)
        have m872 := (cy846_0).trans (fR_kept (x_lt hTH837 kH852 ga0 (by decide))).symm
        have m873 := (cy846_1).trans (fR_kept (x_lt hTH837 kH852 ga0 (by decide))).symm
        have m874 := (cy846_2).trans (fR_kept (x_lt hTH837 kH852 gw0 (by decide))).symm
        have m875 := (cy846_3).trans (fR_kept (x_lt hTH837 kH852 glawq (by decide))).symm
        have m876 := (cy846_9).trans (fR_kept (x_lt hTH837 kH852 ga1 (by decide))).symm
        have m877 := (cy846_10).trans (fR_kept (x_lt hTH837 kH852 ga1 (by decide))).symm
        have m878 := (cy846_11).trans (fR_kept (x_lt hTH837 kH852 ga1 (by decide))).symm
        have m879 := (cy846_12).trans (fR_kept (x_lt hTH837 kH852 ga1 (by decide))).symm
        have m880 := (cy846_13).trans (fI_kept (x_lt hTH837 kH852 gw0 (by decide))).symm
        have m881 := (cy846_14).trans (fI_kept (x_lt hTH837 kH852 gw0 (by decide))).symm
        have bx854 := ty_fi (x := x854) (k := 8) ex854 hTH852 ga3 rg_1 rfl
        have bx855 := ty_fi (x := x855) (k := 9) ex855 hTH852 ga3 rg_1 rfl
        have vw882 : vwC K H852 a3 = (paV (tlC K s.heap tx fsE fwE) sl.toInt vb x843.toInt x851.toInt) := by rw [m862, tlC_frm hT gtx fy846_tf, hvb105]
        have f883 : ∀ q t : Nat, G q = some t → t ≠ 83 → t ≠ 84 → q ≠ a3 → q ≠ kq → q ≠ xq → q ≠ psq → q ≠ pdq → H852[q]? = s.heap[q]? := fun q t hq h1 h2 n1 n2 n3 n4 n5 => (m864 q t hq h1 h2 n1 (by rw [← show kq = kq from rfl] ; exact n2) (by rw [← show psq = psq from rfl]; exact n4) (by rw [← show pdq = pdq from rfl]; exact n5)).trans (fy846_fx q t hq h1 h2 n1 n2 n3 n4 n5)
        have f884 : RFB K H852 s.heap a3 := RFB.st fy846_rb m865
        have f885 : TXF G H852 s.heap := fun q t hq h1 h2 => (m864 q t hq (by omega) (by omega) (G_ne hq ga3 (by omega)) (G_ne hq gkq (by omega)) (G_ne hq gpsq (by omega)) (G_ne hq gpdq (by omega))).trans (fy846_tf q t hq h1 h2)
        refine W.eq (g2 := F0 m 130 ls838 [.int x853]) rfl ?_
        refine lv_pop hx hb dX9_doLine_130 rfl ?_
        obtain ⟨x886, ex886⟩ : ∃ y : Int32, y = x843 + 1 := ⟨_, rfl⟩
        have tx886 := i_add ex886 (by omega)
        refine lv_iinc (v := x886) (lv' := [(8, .int x886), (0, .ref a0), (3, .ref a3), (5, .int x840), (6, .int x841), (7, .int x842)]) hx hb dX9_doLine_131 hl839 (k := 5) rfl (by rw [ex886]; rfl) (by decide) rfl (fun ls887 hl888 => ?_)
        refine lv_goto (tgt := 105) hx hb dX9_doLine_134 (by decide) ?_
        have cn_x843 := i_cl (x := x843) (by omega)
        have cn_x886 := i_cl (x := x886) (by omega)
        exact ih105 (paV (tlC K s.heap tx fsE fwE) sl.toInt vb x843.toInt x851.toInt) ls887 H852 locsH852 (x840) (x841) (x842) (x886) (x854) (x855) (lv_sub hl888 [1, 2, 3, 4, 5, 0] rfl) hTH852 hSH852 (by have := i_rng x840; omega) (by have := i_rng x841; omega) (by have := i_rng x842; omega) (by have := i_rng x886; omega) (by have := i_rng x854; omega) ex854 ex855 m872 m873 m874 m875 m856 m857 m858 m859 m860 m876 m877 m878 m879 m880 m881 m861 f883 f885 f884 f867 f868 f869 f870 f871 (by omega) vw882 (hsp105.trans (arV_go (by omega) (by omega) (by omega)))
  refine lv_aload_n hx hb dX9_doLine_0 rfl (lv_at hl 1 rfl) ?_
  refine x_gr C hT (ci := 7) (k := 2) rfl inX7 (by decide) wF_X9_383 ga1 rg_16 rfl dX9_doLine_1 (fun q889 eq889 gq889 => ?_)
  have uq889 : fq = q889 := (efq).trans eq889.symm
  subst uq889
  refine lv_iload_n hx hb dX9_doLine_4 rfl (lv_at hl 2 rfl) ?_
  refine x_ai C hT gfq rg_18 ⟨by omega, by show _ < ((16 : Nat) : Int); omega⟩ dX9_doLine_5 (fun x890 ex890 bx890 => ?_)
  have lb891 : 0 ≤ x890.toInt ∧ x890.toInt ≤ 15 := by have z := hy2; rw [show x890 = fI s.heap fq x2.toNatClampNeg from ex890.trans (f0_s_fq _)]; omega
  refine lv_istore (lv' := [(4, .int x890), (0, .ref a0), (1, .ref a1), (2, .int x2), (3, .ref a3)]) hx hb dX9_doLine_6 hl (by decide) rfl (fun ls892 hl893 => ?_)
  refine lv_aload_n hx hb dX9_doLine_8 rfl (lv_at hl893 2 rfl) ?_
  refine x_gr C hT (ci := 7) (k := 4) rfl inX7 (by decide) wF_X9_386 ga1 rg_16 rfl dX9_doLine_9 (fun q894 eq894 gq894 => ?_)
  have uq894 : eq_ = q894 := (eeq_).trans eq894.symm
  subst uq894
  refine lv_iload_n hx hb dX9_doLine_12 rfl (lv_at hl893 3 rfl) ?_
  refine x_ai C hT geq_ rg_20 ⟨by omega, by show _ < ((16 : Nat) : Int); omega⟩ dX9_doLine_13 (fun x895 ex895 bx895 => ?_)
  have lb896 : 0 ≤ x895.toInt ∧ x895.toInt ≤ 99 := by have z := hy2; rw [show x895 = fI s.heap eq_ x2.toNatClampNeg from ex895.trans (f0_s_eq _)]; omega
  refine lv_istore (lv' := [(5, .int x895), (4, .int x890), (0, .ref a0), (1, .ref a1), (2, .int x2), (3, .ref a3)]) hx hb dX9_doLine_14 hl893 (by decide) rfl (fun ls897 hl898 => ?_)
  refine lv_aload_n hx hb dX9_doLine_16 rfl (lv_at hl898 3 rfl) ?_
  refine x_gr C hT (ci := 7) (k := 1) rfl inX7 (by decide) wF_X9_389 ga1 rg_16 rfl dX9_doLine_17 (fun q899 eq899 gq899 => ?_)
  have uq899 : wq = q899 := (ewq).trans eq899.symm
  subst uq899
  refine lv_iload_n hx hb dX9_doLine_20 rfl (lv_at hl898 4 rfl) ?_
  refine x_ai C hT gwq rg_17 ⟨by omega, by show _ < ((16 : Nat) : Int); omega⟩ dX9_doLine_21 (fun x900 ex900 bx900 => ?_)
  refine lv_bipush (v := 6) hx hb dX9_doLine_22 (by decide) ?_
  refine lv_icmp_ne (tgt := 48) hx hb dX9_doLine_24 (by decide) (fun c901 => ?_) (fun c901 => ?_)
  · have k902 := i_ne c901
    refine lv_aload_n hx hb dX9_doLine_48 rfl (lv_at hl898 3 rfl) ?_
    refine x_gr C hT (ci := 7) (k := 1) rfl inX7 (by decide) wF_X9_389 ga1 rg_16 rfl dX9_doLine_49 (fun q903 eq903 gq903 => ?_)
    have uq903 : wq = q903 := (ewq).trans eq903.symm
    subst uq903
    refine lv_iload_n hx hb dX9_doLine_52 rfl (lv_at hl898 4 rfl) ?_
    refine x_ai C hT gwq rg_17 ⟨by omega, by show _ < ((16 : Nat) : Int); omega⟩ dX9_doLine_53 (fun x904 ex904 bx904 => ?_)
    have ux904 : x900 = x904 := (ex900).trans ex904.symm
    subst ux904
    refine lv_iconst (v := 4) hx hb dX9_doLine_54 (by decide) ?_
    refine lv_icmp_ne (tgt := 71) hx hb dX9_doLine_55 (by decide) (fun c905 => ?_) (fun c905 => ?_)
    · have k906 := i_ne c905
      refine lv_aload_n hx hb dX9_doLine_71 rfl (lv_at hl898 3 rfl) ?_
      refine x_gr C hT (ci := 7) (k := 3) rfl inX7 (by decide) wF_X9_392 ga1 rg_16 rfl dX9_doLine_72 (fun q907 eq907 gq907 => ?_)
      have uq907 : jq = q907 := (ejq).trans eq907.symm
      subst uq907
      refine lv_iload_n hx hb dX9_doLine_75 rfl (lv_at hl898 4 rfl) ?_
      refine x_ai C hT gjq rg_19 ⟨by omega, by show _ < ((16 : Nat) : Int); omega⟩ dX9_doLine_76 (fun x908 ex908 bx908 => ?_)
      have cn_x2 := i_cl (x := x2) (by omega)
      have zw_1 := ex900.trans (f0_s_wq _)
      have zw_2 := ex904.trans (f0_s_wq _)
      have lb909 : 0 ≤ x908.toInt ∧ x908.toInt ≤ 15 := by have z := hy2; rw [← zw_1] at z; have zz := congrArg Int32.toInt (zw_2.trans zw_1.symm); rw [show x908 = fI s.heap jq x2.toNatClampNeg from ex908.trans (f0_s_jq _)]; omega
      refine lv_aload_n hx hb dX9_doLine_77 rfl (lv_at hl898 5 rfl) ?_
      refine x_gi C hT (ci := 0) (k := 0) rfl inX0 (by decide) wF_X9_187 ga3 rg_1 rfl dX9_doLine_78 (fun x910 ex910 bx910 => ?_)
      have ux910 : sz = x910 := (esz).trans ex910.symm
      subst ux910
      refine lv_iconst (v := 1) hx hb dX9_doLine_81 (by decide) ?_
      refine lv_isub hx hb dX9_doLine_82 ?_
      refine lv_topi (fun x911 ex911 => ?_)
      have tx911 := i_sub ex911 (by omega)
      refine va_mmin hx hb (hml.trans hl898.1.symm) hown (hts _ wM_X9_395) (hts _ wST_J9_min_7cf53) (hts _ wIN_J9) (hts _ wCD_J9_min_7cf53) (by decide) (Nat.le_of_ble_eq_true rfl) (by decide) (by decide) dX9_doLine_83 ?_
      refine lv_topi (fun x912 ex912 => ?_)
      have tx912 := i_min ex912
      refine lv_istore (lv' := [(6, .int x912), (5, .int x895), (4, .int x890), (0, .ref a0), (1, .ref a1), (2, .int x2), (3, .ref a3)]) hx hb dX9_doLine_86 hl898 (by decide) rfl (fun ls913 hl914 => ?_)
      refine lv_iload hx hb dX9_doLine_88 (lv_at hl914 2 rfl) ?_
      refine lv_aload_n hx hb dX9_doLine_90 rfl (lv_at hl914 4 rfl) ?_
      refine x_gr C hT (ci := 7) (k := 3) rfl inX7 (by decide) wF_X9_392 ga1 rg_16 rfl dX9_doLine_91 (fun q915 eq915 gq915 => ?_)
      have uq915 : jq = q915 := (ejq).trans eq915.symm
      subst uq915
      refine lv_iload_n hx hb dX9_doLine_94 rfl (lv_at hl914 5 rfl) ?_
      refine x_ai C hT gjq rg_19 ⟨by omega, by show _ < ((16 : Nat) : Int); omega⟩ dX9_doLine_95 (fun x916 ex916 bx916 => ?_)
      have ux916 : x908 = x916 := (ex908).trans ex916.symm
      subst ux916
      have cn_x2 := i_cl (x := x2) (by omega)
      have zw_1 := ex900.trans (f0_s_wq _)
      have zw_2 := ex904.trans (f0_s_wq _)
      have lb917 : 0 ≤ x908.toInt ∧ x908.toInt ≤ 15 := by have z := hy2; rw [← zw_1] at z; have zz := congrArg Int32.toInt (zw_2.trans zw_1.symm); rw [show x908 = fI s.heap jq x2.toNatClampNeg from ex916.trans (f0_s_jq _)]; omega
      refine lv_iadd hx hb dX9_doLine_96 ?_
      refine lv_topi (fun x918 ex918 => ?_)
      have tx918 := i_add ex918 (by omega)
      refine lv_iconst (v := 2) hx hb dX9_doLine_97 (by decide) ?_
      refine lv_idiv hx hb dX9_doLine_98 (fun h => by have := i_eq h; omega) ?_
      refine lv_topi (fun x919 ex919 => ?_)
      have tx919 := i_div ex919 (by omega) (by omega)
      refine lv_istore (lv' := [(7, .int x919), (6, .int x912), (5, .int x895), (4, .int x890), (0, .ref a0), (1, .ref a1), (2, .int x2), (3, .ref a3)]) hx hb dX9_doLine_99 hl914 (by decide) rfl (fun ls920 hl921 => ?_)
      have kd2_ : x919.toInt = x918.toInt / 2 := by rw [ex919]; exact lg_idiv_nonneg (by omega) (by decide)
      refine lv_iload hx hb dX9_doLine_101 (lv_at hl921 3 rfl) ?_
      refine lv_istore (lv' := [(8, .int x890), (7, .int x919), (6, .int x912), (5, .int x895), (4, .int x890), (0, .ref a0), (1, .ref a1), (2, .int x2), (3, .ref a3)]) hx hb dX9_doLine_103 hl921 (by decide) rfl (fun ls922 hl923 => ?_)
      have cn_x2 := i_cl (x := x2) (by omega)
      exact J105 ((16 - x890.toInt).toNat + 1) (vwC K s.heap a3) ls922 s.heap [] (x895) (x912) (x919) (x890) (pcn) (lb) (lv_sub hl923 [5, 8, 3, 2, 1, 0] rfl) hT hS (by have := i_rng x895; omega) (by have := i_rng x912; omega) (by have := i_rng x919; omega) (by have := i_rng x890; omega) (by have := i_rng pcn; omega) epcn elb esmq ew0 elawq etx ekq exq egq epsq epdq ewq efq ejq eeq_ efo esl esz f0_fx f0_tf f0_rb f0_s_gq f0_s_wq f0_s_fq f0_s_jq f0_s_eq (by omega) vw_0 (by rw [show fI s.heap fq x2.toNatClampNeg = x890 from ex890.symm, show fI s.heap eq_ x2.toNatClampNeg = x895 from ex895.symm, show fI s.heap wq x2.toNatClampNeg = x900 from ex900.symm, show fI s.heap jq x2.toNatClampNeg = x908 from ex908.symm]; exact liV_a (by omega) (by omega) (by rw [v00]; omega))
    · have k906 := i_eq c905
      refine lv_aload_n hx hb dX9_doLine_58 rfl (lv_at hl898 2 rfl) ?_
      refine lv_aload_n hx hb dX9_doLine_59 rfl (lv_at hl898 5 rfl) ?_
      refine lv_iload hx hb dX9_doLine_60 (lv_at hl898 1 rfl) ?_
      refine lv_iload hx hb dX9_doLine_62 (lv_at hl898 0 rfl) ?_
      refine x_V (As := [.ref a3, .int x890, .int x895]) (rest := []) C (a_X9_takeOff_v l K G s.heap (x890) (x895) (pcn) (lb) (fo) (sl) (sz) (fsE) (fwE) hT ga0 ga3 gsmq esmq gw0 ew0 glawq elawq gtx etx gkq ekq gxq exq ggq egq gpsq epsq gpdq epdq epcn elb efo esl esz (by omega) ((TXC.frm hT gtx f0_tf hy0)) ((fun j hj => by rw [f0_s_gq j]; exact hy1 j hj))) yo_X9_takeOff wM_X9_170 ⟨⟨by decide, by decide⟩, by decide, by decide⟩ (x_rv C hT (ci := 9) rfl ga0 rg_68) rfl hl898.1 rfl (Nat.le_of_ble_eq_true rfl) dX9_doLine_64 hS (AE_sub (fun _ _ => rfl) (by decide) hS.1) (fun vH924 H924 locsH924 pH924 zH924 kH924 hSH924 => ?_)
      obtain ⟨x925, x926, x927, hvH924, ex926, ex927, m928, m929, m930, m931, m932, m933, m934, m935, m936, m937, hTH924⟩ := pH924
      subst hvH924
      have f938 : TXF G H924 s.heap := (fun q t hq h1 h2 => (x_lt hT kH924 hq (by first | omega | (intro z; simp only [List.mem_cons, List.not_mem_nil, or_false] at z <;> omega))).trans (f0_tf q t hq h1 h2))
      have f939 : ∀ j : Nat, fI H924 gq j = fI s.heap gq j := fun j => (fI_kept (x_lt hT kH924 ggq (by decide))).trans (f0_s_gq j)
      have f940 : ∀ j : Nat, fI H924 wq j = fI s.heap wq j := fun j => (fI_kept (x_lt hT kH924 gwq (by decide))).trans (f0_s_wq j)
      have f941 : ∀ j : Nat, fI H924 fq j = fI s.heap fq j := fun j => (fI_kept (x_lt hT kH924 gfq (by decide))).trans (f0_s_fq j)
      have f942 : ∀ j : Nat, fI H924 jq j = fI s.heap jq j := fun j => (fI_kept (x_lt hT kH924 gjq (by decide))).trans (f0_s_jq j)
      have f943 : ∀ j : Nat, fI H924 eq_ j = fI s.heap eq_ j := fun j => (fI_kept (x_lt hT kH924 geq_ (by decide))).trans (f0_s_eq j)
      have m944 := (esmq).trans (fR_kept (x_lt hT kH924 ga0 (by decide))).symm
      have m945 := (ew0).trans (fR_kept (x_lt hT kH924 ga0 (by decide))).symm
      have m946 := (elawq).trans (fR_kept (x_lt hT kH924 gw0 (by decide))).symm
      have m947 := (etx).trans (fR_kept (x_lt hT kH924 glawq (by decide))).symm
      have m948 := (ewq).trans (fR_kept (x_lt hT kH924 ga1 (by decide))).symm
      have m949 := (efq).trans (fR_kept (x_lt hT kH924 ga1 (by decide))).symm
      have m950 := (ejq).trans (fR_kept (x_lt hT kH924 ga1 (by decide))).symm
      have m951 := (eeq_).trans (fR_kept (x_lt hT kH924 ga1 (by decide))).symm
      have m952 := (efo).trans (fI_kept (x_lt hT kH924 gw0 (by decide))).symm
      have m953 := (esl).trans (fI_kept (x_lt hT kH924 gw0 (by decide))).symm
      have m954 := (ex890).trans (fI_kept (x_lt hT kH924 gfq (by decide))).symm
      have m955 := (ex895).trans (fI_kept (x_lt hT kH924 geq_ (by decide))).symm
      have m956 := (ex900).trans (fI_kept (x_lt hT kH924 gwq (by decide))).symm
      have bx926 := ty_fi (x := x926) (k := 8) ex926 hTH924 ga3 rg_1 rfl
      have bx927 := ty_fi (x := x927) (k := 9) ex927 hTH924 ga3 rg_1 rfl
      have vw957 : vwC K H924 a3 = (paV (tlC K s.heap tx fsE fwE) sl.toInt (vwC K s.heap a3) x890.toInt x895.toInt) := by rw [m934, tlC_frm hT gtx f0_tf, vw_0]
      have f958 : ∀ q t : Nat, G q = some t → t ≠ 83 → t ≠ 84 → q ≠ a3 → q ≠ kq → q ≠ xq → q ≠ psq → q ≠ pdq → H924[q]? = s.heap[q]? := fun q t hq h1 h2 n1 n2 n3 n4 n5 => (m936 q t hq h1 h2 n1 (by rw [← show kq = kq from rfl] ; exact n2) (by rw [← show psq = psq from rfl]; exact n4) (by rw [← show pdq = pdq from rfl]; exact n5)).trans (f0_fx q t hq h1 h2 n1 n2 n3 n4 n5)
      have f959 : RFB K H924 s.heap a3 := RFB.st f0_rb m937
      have f960 : TXF G H924 s.heap := fun q t hq h1 h2 => (m936 q t hq (by omega) (by omega) (G_ne hq ga3 (by omega)) (G_ne hq gkq (by omega)) (G_ne hq gpsq (by omega)) (G_ne hq gpdq (by omega))).trans (f0_tf q t hq h1 h2)
      refine W.eq (g2 := F0 m 67 ls897 [.int x925]) rfl ?_
      refine lv_pop hx hb dX9_doLine_67 rfl ?_
      refine lv_goto (tgt := 137) hx hb dX9_doLine_68 (by decide) ?_
      have cn_x2 := i_cl (x := x2) (by omega)
      exact x_vret C hQ dX9_doLine_137 hSH924 (by decide) (by decide) (⟨x926, x927, rfl, ex926, ex927, m928, m929, m930, m931, m932, m933, (vw957.trans (by rw [show fI s.heap fq x2.toNatClampNeg = x890 from ex890.symm, show fI s.heap eq_ x2.toNatClampNeg = x895 from ex895.symm, show fI s.heap wq x2.toNatClampNeg = x900 from ex900.symm]; exact (liV_s (by omega)).symm)), f958, f959, hTH924⟩)
  · have k902 := i_eq c901
    refine lv_aload_n hx hb dX9_doLine_27 rfl (lv_at hl898 5 rfl) ?_
    refine lv_iload hx hb dX9_doLine_28 (lv_at hl898 1 rfl) ?_
    refine x_V (As := [.int x890]) (rest := []) C (a_X0_has_v l K G s.heap (x890) (sz) hT ga3 esz) yo_X0_has wM_X9_82 ⟨⟨by decide, by decide⟩, by decide, by decide⟩ (x_rv C hT (ci := 0) rfl ga3 rg_1) rfl hl898.1 rfl (Nat.le_of_ble_eq_true rfl) dX9_doLine_30 hS (AE_sub (fun _ _ => rfl) (by decide) hS.1) (fun vH961 H961 locsH961 pH961 zH961 kH961 hSH961 => ?_)
    obtain ⟨x962, hvH961, bx962, hrH961, hTH961⟩ := pH961
    subst hvH961
    have f963 : ∀ q t : Nat, G q = some t → t ≠ 83 → t ≠ 84 → q ≠ a3 → q ≠ kq → q ≠ xq → q ≠ psq → q ≠ pdq → H961[q]? = s.heap[q]? := (fun q t hq h1 h2 n1 n2 n3 n4 n5 => (x_lt hT kH961 hq (by first | omega | (intro z; simp only [List.mem_cons, List.not_mem_nil, or_false] at z <;> omega))).trans (f0_fx q t hq h1 h2 n1 n2 n3 n4 n5))
    have f964 : TXF G H961 s.heap := (fun q t hq h1 h2 => (x_lt hT kH961 hq (by first | omega | (intro z; simp only [List.mem_cons, List.not_mem_nil, or_false] at z <;> omega))).trans (f0_tf q t hq h1 h2))
    have f965 : RFB K H961 s.heap a3 := RFB.st f0_rb (fun k hk => fR_kept (x_lt hT kH961 ga3 (by decide)))
    have f966 : ∀ j : Nat, fI H961 gq j = fI s.heap gq j := fun j => (fI_kept (x_lt hT kH961 ggq (by decide))).trans (f0_s_gq j)
    have f967 : ∀ j : Nat, fI H961 wq j = fI s.heap wq j := fun j => (fI_kept (x_lt hT kH961 gwq (by decide))).trans (f0_s_wq j)
    have f968 : ∀ j : Nat, fI H961 fq j = fI s.heap fq j := fun j => (fI_kept (x_lt hT kH961 gfq (by decide))).trans (f0_s_fq j)
    have f969 : ∀ j : Nat, fI H961 jq j = fI s.heap jq j := fun j => (fI_kept (x_lt hT kH961 gjq (by decide))).trans (f0_s_jq j)
    have f970 : ∀ j : Nat, fI H961 eq_ j = fI s.heap eq_ j := fun j => (fI_kept (x_lt hT kH961 geq_ (by decide))).trans (f0_s_eq j)
    have m971 := (esmq).trans (fR_kept (x_lt hT kH961 ga0 (by decide))).symm
    have m972 := (ew0).trans (fR_kept (x_lt hT kH961 ga0 (by decide))).symm
    have m973 := (elawq).trans (fR_kept (x_lt hT kH961 gw0 (by decide))).symm
    have m974 := (etx).trans (fR_kept (x_lt hT kH961 glawq (by decide))).symm
    have m975 := (ekq).trans (fR_kept (x_lt hT kH961 ga3 (by decide))).symm
    have m976 := (exq).trans (fR_kept (x_lt hT kH961 ga3 (by decide))).symm
    have m977 := (egq).trans (fR_kept (x_lt hT kH961 ga3 (by decide))).symm
    have m978 := (epsq).trans (fR_kept (x_lt hT kH961 ga3 (by decide))).symm
    have m979 := (epdq).trans (fR_kept (x_lt hT kH961 ga3 (by decide))).symm
    have m980 := (ewq).trans (fR_kept (x_lt hT kH961 ga1 (by decide))).symm
    have m981 := (efq).trans (fR_kept (x_lt hT kH961 ga1 (by decide))).symm
    have m982 := (ejq).trans (fR_kept (x_lt hT kH961 ga1 (by decide))).symm
    have m983 := (eeq_).trans (fR_kept (x_lt hT kH961 ga1 (by decide))).symm
    have m984 := (epcn).trans (fI_kept (x_lt hT kH961 ga3 (by decide))).symm
    have m985 := (elb).trans (fI_kept (x_lt hT kH961 ga3 (by decide))).symm
    have m986 := (efo).trans (fI_kept (x_lt hT kH961 gw0 (by decide))).symm
    have m987 := (esl).trans (fI_kept (x_lt hT kH961 gw0 (by decide))).symm
    have m988 := (esz).trans (fI_kept (x_lt hT kH961 ga3 (by decide))).symm
    have m989 := (ex890).trans (fI_kept (x_lt hT kH961 gfq (by decide))).symm
    have m990 := (ex895).trans (fI_kept (x_lt hT kH961 geq_ (by decide))).symm
    have m991 := (ex900).trans (fI_kept (x_lt hT kH961 gwq (by decide))).symm
    have vw992 : vwC K H961 a3 = (vwC K s.heap a3) := (vw_frm hT ga3 (fun q t hq h1 h2 => x_lt hT kH961 hq (by first | omega | (intro z; simp only [List.mem_cons, List.not_mem_nil, or_false] at z <;> omega)))).trans vw_0
    refine W.eq (g2 := F0 m 33 ls897 [.int x962]) rfl ?_
    refine lv_if_eq (tgt := 137) hx hb dX9_doLine_33 (by decide) (fun c993 => ?_) (fun c993 => ?_)
    · have k994 := i_eq c993
      have cn_x2 := i_cl (x := x2) (by omega)
      exact x_vret C hQ dX9_doLine_137 hSH961 (by decide) (by decide) (⟨pcn, lb, rfl, m984, m985, m975, m976, m977, m978, m979, m988, (vw992.trans (by rw [show fI s.heap fq x2.toNatClampNeg = x890 from ex890.symm, show fI s.heap eq_ x2.toNatClampNeg = x895 from ex895.symm, show fI s.heap wq x2.toNatClampNeg = x900 from ex900.symm]; exact (liV_w0 (by omega) (by rw [v00]; omega)).symm)), f963, f965, hTH961⟩)
    · have k994 := i_ne c993
      refine lv_aload_n hx hb dX9_doLine_36 rfl (lv_at hl898 5 rfl) ?_
      refine x_gr C hTH961 (ci := 0) (k := 4) rfl inX0 (by decide) wF_X9_102 ga3 rg_1 rfl dX9_doLine_37 (fun q995 eq995 gq995 => ?_)
      have uq995 : xq = q995 := (m976).trans eq995.symm
      subst uq995
      refine lv_iload hx hb dX9_doLine_40 (lv_at hl898 1 rfl) ?_
      refine lv_iload hx hb dX9_doLine_42 (lv_at hl898 0 rfl) ?_
      refine x_iast C hTH961 hSH961 gxq rg_5 (by omega) (by show _ < ((16 : Nat) : Int); omega) ⟨by have := i_rng x895; omega, by have := i_rng x895; omega⟩ (AE_in gxq (by decide)) dX9_doLine_44 (fun H996 locsH996 hTH996 hSH996 wH996 => ?_)
      have f997 : ∀ q t : Nat, G q = some t → t ≠ 83 → t ≠ 84 → q ≠ a3 → q ≠ kq → q ≠ xq → q ≠ psq → q ≠ pdq → H996[q]? = s.heap[q]? := (fun q t hq h1 h2 n1 n2 n3 n4 n5 => (wH996.off n3).trans (f963 q t hq h1 h2 n1 n2 n3 n4 n5))
      have f998 : TXF G H996 s.heap := (fun q t hq h1 h2 => (wH996.off (G_ne hq gxq (by first | omega | (intro z; simp only [List.mem_cons, List.not_mem_nil, or_false] at z <;> omega)))).trans (f964 q t hq h1 h2))
      have f999 : RFB K H996 s.heap a3 := RFB.st f965 (fun k hk => fR_kept (wH996.off (G_ne ga3 gxq (by decide))))
      have f1000 : ∀ j : Nat, fI H996 gq j = fI s.heap gq j := fun j => (Wr.neI wH996 (Or.inl (G_ne ggq gxq (by decide)))).trans (f966 j)
      have f1001 : ∀ j : Nat, fI H996 wq j = fI s.heap wq j := fun j => (Wr.neI wH996 (Or.inl (G_ne gwq gxq (by decide)))).trans (f967 j)
      have f1002 : ∀ j : Nat, fI H996 fq j = fI s.heap fq j := fun j => (Wr.neI wH996 (Or.inl (G_ne gfq gxq (by decide)))).trans (f968 j)
      have f1003 : ∀ j : Nat, fI H996 jq j = fI s.heap jq j := fun j => (Wr.neI wH996 (Or.inl (G_ne gjq gxq (by decide)))).trans (f969 j)
      have f1004 : ∀ j : Nat, fI H996 eq_ j = fI s.heap eq_ j := fun j => (Wr.neI wH996 (Or.inl (G_ne geq_ gxq (by decide)))).trans (f970 j)
      have m1005 := m971.trans (Wr.neR wH996 (Or.inl (G_ne ga0 gxq (by decide)))).symm
      have m1006 := m972.trans (Wr.neR wH996 (Or.inl (G_ne ga0 gxq (by decide)))).symm
      have m1007 := m973.trans (Wr.neR wH996 (Or.inl (G_ne gw0 gxq (by decide)))).symm
      have m1008 := m974.trans (Wr.neR wH996 (Or.inl (G_ne glawq gxq (by decide)))).symm
      have m1009 := m975.trans (Wr.neR wH996 (Or.inl (G_ne ga3 gxq (by decide)))).symm
      have m1010 := m976.trans (Wr.neR wH996 (Or.inl (G_ne ga3 gxq (by decide)))).symm
      have m1011 := m977.trans (Wr.neR wH996 (Or.inl (G_ne ga3 gxq (by decide)))).symm
      have m1012 := m978.trans (Wr.neR wH996 (Or.inl (G_ne ga3 gxq (by decide)))).symm
      have m1013 := m979.trans (Wr.neR wH996 (Or.inl (G_ne ga3 gxq (by decide)))).symm
      have m1014 := m980.trans (Wr.neR wH996 (Or.inl (G_ne ga1 gxq (by decide)))).symm
      have m1015 := m981.trans (Wr.neR wH996 (Or.inl (G_ne ga1 gxq (by decide)))).symm
      have m1016 := m982.trans (Wr.neR wH996 (Or.inl (G_ne ga1 gxq (by decide)))).symm
      have m1017 := m983.trans (Wr.neR wH996 (Or.inl (G_ne ga1 gxq (by decide)))).symm
      have m1018 := m984.trans (Wr.neI wH996 (Or.inl (G_ne ga3 gxq (by decide)))).symm
      have m1019 := m985.trans (Wr.neI wH996 (Or.inl (G_ne ga3 gxq (by decide)))).symm
      have m1020 := m986.trans (Wr.neI wH996 (Or.inl (G_ne gw0 gxq (by decide)))).symm
      have m1021 := m987.trans (Wr.neI wH996 (Or.inl (G_ne gw0 gxq (by decide)))).symm
      have m1022 := m988.trans (Wr.neI wH996 (Or.inl (G_ne ga3 gxq (by decide)))).symm
      have m1023 := m989.trans (Wr.neI wH996 (Or.inl (G_ne gfq gxq (by decide)))).symm
      have m1024 := m990.trans (Wr.neI wH996 (Or.inl (G_ne geq_ gxq (by decide)))).symm
      have m1025 := m991.trans (Wr.neI wH996 (Or.inl (G_ne gwq gxq (by decide)))).symm
      have m1026 := Wr.I wH996
      have m1026 := m1026.symm
      have vw1027 : vwC K H996 a3 = (upV (vwC K s.heap a3) 4 x890.toNatClampNeg x895.toInt) := by rw [vw_arr hTH961 ga3 wH996 m976 (by decide) rfl, vw992]
      refine lv_goto (tgt := 137) hx hb dX9_doLine_45 (by decide) ?_
      have cn_x2 := i_cl (x := x2) (by omega)
      exact x_vret C hQ dX9_doLine_137 hSH996 (by decide) (by decide) (⟨pcn, lb, rfl, m1018, m1019, m1009, m1010, m1011, m1012, m1013, m1022, (vw1027.trans (by rw [show fI s.heap fq x2.toNatClampNeg = x890 from ex890.symm, show fI s.heap eq_ x2.toNatClampNeg = x895 from ex895.symm, show fI s.heap wq x2.toNatClampNeg = x900 from ex900.symm]; exact (liV_w (n := x890.toNatClampNeg) (by omega) (by rw [v00]; omega) rfl).symm)), f997, f999, hTH996⟩)
