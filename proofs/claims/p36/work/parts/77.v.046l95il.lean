theorem oth_c {K : KE} {G : Nat → Option Nat} {H1 H : Heap} {w i j d : Nat} (own : OWN K H w) (hT : TY K G H) (gw : G w = some 0) (hi : i < 10) (hj : j < 10) (hn : i ≠ j) (ed : ow K H w j = d) (f : ∀ q t : Nat, G q = some t → (1 ≤ t ∧ t ≤ 8) → q ≠ d → (∀ k ∈ RKB, q ≠ fR H d (K.1.2 0 k)) → H1[q]? = H[q]?) : H1[ow K H w i]? = H[ow K H w i]? := by
  subst ed
  refine f _ _ (ow_g hT gw hi) (by omega) (own.ne (by omega) (by omega) hn) (fun k hk e => ?_)
  have a := own.2.1 j hj k hk
  rcases Nat.lt_or_gt_of_ne hn with c | c
  · have := own.lt (j - i - 1) i (by omega)
    rw [show i + (j - i - 1) + 1 = j by omega] at this
    omega
  · have := own.le c (by omega)
    omega
theorem oth_cK {K : KE} {G : Nat → Option Nat} {H1 H : Heap} {w i j d : Nat} (own : OWN K H w) (hT : TY K G H) (gw : G w = some 34) (hi : i < 10) (hj : j < 10) (hn : i ≠ j) (ed : ow K H w j = d) (f : ∀ q t : Nat, G q = some t → (35 ≤ t ∧ t ≤ 42) → q ≠ d → (∀ k ∈ RKB, q ≠ fR H d (K.1.2 0 k)) → H1[q]? = H[q]?) : H1[ow K H w i]? = H[ow K H w i]? := by
  subst ed
  refine f _ _ (ow_gK hT gw hi) (by omega) (own.ne (by omega) (by omega) hn) (fun k hk e => ?_)
  have a := own.2.1 j hj k hk
  rcases Nat.lt_or_gt_of_ne hn with c | c
  · have := own.lt (j - i - 1) i (by omega)
    rw [show i + (j - i - 1) + 1 = j by omega] at this
    omega
  · have := own.le c (by omega)
    omega
set_option maxHeartbeats 4000000 in
set_option maxRecDepth 100000 in
theorem a_X8_copyFrom_gk (l : Launch) (K : KE) (G : Nat → Option Nat) (H : Heap) {a0 : Nat} {a1 : Nat} (d1 : Int32) (d4 : Int32) (d5 : Int32) (d10 : Int32) (d13 : Int32) (d16 : Int32) (u1 : Int32) (u4 : Int32) (u5 : Int32) (u10 : Int32) (u13 : Int32) (u16 : Int32) (hT : TY K G H) (ga0 : G a0 = some 34) (ga1 : G a1 = some 0) (ed1 : d1 = fI H a0 (K.1.2 8 1)) (ed4 : d4 = fI H a0 (K.1.2 8 4)) (ed5 : d5 = fI H a0 (K.1.2 8 5)) (ed10 : d10 = fI H a0 (K.1.2 8 10)) (ed13 : d13 = fI H a0 (K.1.2 8 13)) (ed16 : d16 = fI H a0 (K.1.2 8 16)) (eu1 : u1 = fI H a1 (K.1.2 8 1)) (eu4 : u4 = fI H a1 (K.1.2 8 4)) (eu5 : u5 = fI H a1 (K.1.2 8 5)) (eu10 : u10 = fI H a1 (K.1.2 8 10)) (eu13 : u13 = fI H a1 (K.1.2 8 13)) (eu16 : u16 = fI H a1 (K.1.2 8 16)) (hy0 : OWN K H a0) : MX l K yX8_copyFrom cX8_copyFrom 3 none 2 62 0 0 [.ref a0, .ref a1] H (AE G [34, 35, 36, 37, 38, 39, 40, 41, 42, 43, 44, 46, 48, 49, 50, 51, 52, 53, 54, 55, 56, 57, 58, 62, 63, 64, 65, 66, 67] H.size) (fun v H1 => ∃ (t0 : Int32) (t1 : Int32) (t2 : Int32) (t3 : Int32) (t4 : Int32) (t5 : Int32), v = none ∧ t0 = fI H1 a0 (K.1.2 8 1) ∧ t1 = fI H1 a0 (K.1.2 8 4) ∧ t2 = fI H1 a0 (K.1.2 8 5) ∧ t3 = fI H1 a0 (K.1.2 8 10) ∧ t4 = fI H1 a0 (K.1.2 8 13) ∧ t5 = fI H1 a0 (K.1.2 8 16) ∧ (t0.toInt = u1.toInt ∧ t1.toInt = u4.toInt ∧ t2.toInt = u5.toInt ∧ t3.toInt = u10.toInt ∧ t4.toInt = u13.toInt ∧ t5.toInt = u16.toInt) ∧ (RFW K H1 H a0) ∧ (IMX K H1 a0 a1 u1.toInt) ∧ TY K G H1) := by
  refine MX.of (by decide +kernel) (Nat.le_of_ble_eq_true rfl) ?_
  intro p e s m below meth c ls Q C hH hl hQ
  subst hH
  have C : CX p K s m _ meth c RX8 cX8_copyFrom 3 none "copyFrom" := C
  obtain ⟨hx, hb, hml, hown, hts, hKT, hr, hlocks, hnm⟩ := id C
  have hl : lv_has ls 3 [(0, .ref a0), (1, .ref a1)] := hl
  have hS : va_S (AE G [34, 35, 36, 37, 38, 39, 40, 41, 42, 43, 44, 46, 48, 49, 50, 51, 52, 53, 54, 55, 56, 57, 58, 62, 63, 64, 65, 66, 67] s.heap.size) s.heap s.heap [] := va_S.rf
  have n_0 : (0 : Int32).toInt = 0 := rfl
  have n_1 : (1 : Int32).toInt = 1 := rfl
  have n_2 : (2 : Int32).toInt = 2 := rfl
  have n_4 : (4 : Int32).toInt = 4 := rfl
  have n_8 : (8 : Int32).toInt = 8 := rfl
  have n_20 : (20 : Int32).toInt = 20 := rfl
  have bd1 := ty_fi (x := d1) (k := 1) ed1 hT ga0 rg_34 rfl
  have bd4 := ty_fi (x := d4) (k := 4) ed4 hT ga0 rg_34 rfl
  have bd5 := ty_fi (x := d5) (k := 5) ed5 hT ga0 rg_34 rfl
  have bd10 := ty_fi (x := d10) (k := 10) ed10 hT ga0 rg_34 rfl
  have bd13 := ty_fi (x := d13) (k := 13) ed13 hT ga0 rg_34 rfl
  have bd16 := ty_fi (x := d16) (k := 16) ed16 hT ga0 rg_34 rfl
  have bu1 := ty_fi (x := u1) (k := 1) eu1 hT ga1 rg_0 rfl
  have bu4 := ty_fi (x := u4) (k := 4) eu4 hT ga1 rg_0 rfl
  have bu5 := ty_fi (x := u5) (k := 5) eu5 hT ga1 rg_0 rfl
  have bu10 := ty_fi (x := u10) (k := 10) eu10 hT ga1 rg_0 rfl
  have bu13 := ty_fi (x := u13) (k := 13) eu13 hT ga1 rg_0 rfl
  have bu16 := ty_fi (x := u16) (k := 16) eu16 hT ga1 rg_0 rfl
  have hap8 : ∀ x y, x < 17 → y < 17 → x ≠ y → K.1.2 8 x ≠ K.1.2 8 y := x_apart hKT hts inX8 tyX8 tyX8_ok nmX8 rfl
  have f0_rw : RFW K s.heap s.heap a0 := RFW.rf
  have f0_bx : BXT K s.heap s.heap a0 a1 (0 : Int) := BXT.nil (by decide)
  have f0_tx : TXK K s.heap s.heap a0 a1 10 := TXK.nil (by decide)
  have J2 : ∀ (nf : Nat) (ls4867 : Array Slot) (H4866 : Heap) (locsH4866 : List Loc) (x4869 : Int32) (x4870 : Int32) (x4871 : Int32) (x4872 : Int32) (x4873 : Int32) (x4874 : Int32) (x4875 : Int32), lv_has ls4867 3 [(0, .ref a0), (1, .ref a1), (2, .int x4869)] → TY K G H4866 → va_S (AE G [34, 35, 36, 37, 38, 39, 40, 41, 42, 43, 44, 46, 48, 49, 50, 51, 52, 53, 54, 55, 56, 57, 58, 62, 63, 64, 65, 66, 67] s.heap.size) s.heap H4866 locsH4866 → (0 ≤ x4869.toInt ∧ x4869.toInt ≤ 10) → (0 ≤ x4870.toInt ∧ x4870.toInt ≤ 10) → (0 ≤ x4871.toInt ∧ x4871.toInt ≤ 1) → (0 ≤ x4873.toInt ∧ x4873.toInt ≤ 20) → (0 ≤ x4874.toInt ∧ x4874.toInt ≤ 8) → (0 ≤ x4875.toInt ∧ x4875.toInt ≤ 8) → (x4870 = fI H4866 a0 (K.1.2 8 1)) → (x4871 = fI H4866 a0 (K.1.2 8 4)) → (x4872 = fI H4866 a0 (K.1.2 8 5)) → (x4873 = fI H4866 a0 (K.1.2 8 10)) → (x4874 = fI H4866 a0 (K.1.2 8 13)) → (x4875 = fI H4866 a0 (K.1.2 8 16)) → (u1 = fI H4866 a1 (K.1.2 8 1)) → (u4 = fI H4866 a1 (K.1.2 8 4)) → (u5 = fI H4866 a1 (K.1.2 8 5)) → (u10 = fI H4866 a1 (K.1.2 8 10)) → (u13 = fI H4866 a1 (K.1.2 8 13)) → (u16 = fI H4866 a1 (K.1.2 8 16)) → (RFW K H4866 s.heap a0) → (BXT K H4866 s.heap a0 a1 x4869.toInt) → (TXK K H4866 s.heap a0 a1 10) → (10 - x4869.toInt < (nf : Int)) → (x4869.toInt ≤ u1.toInt) → W p l e ({ frames := 2, cells := 0, slots := 0, locals := 62 } : Room) s m (([.ref a0, .ref a1] : List Value).toArray) below meth c H4866 locsH4866 0 0 Q (F0 m 2 ls4867 []) := by
    intro nf
    induction nf with
    | zero =>
      intro ls4867 H4866 locsH4866 x4869 x4870 x4871 x4872 x4873 x4874 x4875 hl4868 hTH4866 hSH4866 bx4869 bx4870 bx4871 bx4873 bx4874 bx4875 ex4870 ex4871 ex4872 ex4873 ex4874 ex4875 cy4876_0 cy4876_1 cy4876_2 cy4876_3 cy4876_4 cy4876_5 fy4876_rw fy4876_bx fy4876_tx hm2 iv2
      have rx4872 := i_rng x4872
      exfalso
      omega
    | succ nf ih2 =>
      intro ls4867 H4866 locsH4866 x4869 x4870 x4871 x4872 x4873 x4874 x4875 hl4868 hTH4866 hSH4866 bx4869 bx4870 bx4871 bx4873 bx4874 bx4875 ex4870 ex4871 ex4872 ex4873 ex4874 ex4875 cy4876_0 cy4876_1 cy4876_2 cy4876_3 cy4876_4 cy4876_5 fy4876_rw fy4876_bx fy4876_tx hm2 iv2
      have rx4872 := i_rng x4872
      have J41 : ∀ (nf : Nat) (ls4878 : Array Slot) (H4877 : Heap) (locsH4877 : List Loc) (x4880 : Int32) (x4881 : Int32) (x4882 : Int32) (x4883 : Int32) (x4884 : Int32) (x4885 : Int32) (x4886 : Int32), lv_has ls4878 3 [(0, .ref a0), (1, .ref a1), (2, .int x4880)] → TY K G H4877 → va_S (AE G [34, 35, 36, 37, 38, 39, 40, 41, 42, 43, 44, 46, 48, 49, 50, 51, 52, 53, 54, 55, 56, 57, 58, 62, 63, 64, 65, 66, 67] s.heap.size) s.heap H4877 locsH4877 → (0 ≤ x4880.toInt ∧ x4880.toInt ≤ 2) → (0 ≤ x4881.toInt ∧ x4881.toInt ≤ 10) → (0 ≤ x4882.toInt ∧ x4882.toInt ≤ 1) → (0 ≤ x4884.toInt ∧ x4884.toInt ≤ 20) → (0 ≤ x4885.toInt ∧ x4885.toInt ≤ 8) → (0 ≤ x4886.toInt ∧ x4886.toInt ≤ 8) → (x4881 = fI H4877 a0 (K.1.2 8 1)) → (x4882 = fI H4877 a0 (K.1.2 8 4)) → (x4883 = fI H4877 a0 (K.1.2 8 5)) → (x4884 = fI H4877 a0 (K.1.2 8 10)) → (x4885 = fI H4877 a0 (K.1.2 8 13)) → (x4886 = fI H4877 a0 (K.1.2 8 16)) → (u1 = fI H4877 a1 (K.1.2 8 1)) → (u4 = fI H4877 a1 (K.1.2 8 4)) → (u5 = fI H4877 a1 (K.1.2 8 5)) → (u10 = fI H4877 a1 (K.1.2 8 10)) → (u13 = fI H4877 a1 (K.1.2 8 13)) → (u16 = fI H4877 a1 (K.1.2 8 16)) → (RFW K H4877 s.heap a0) → (BXT K H4877 s.heap a0 a1 u1.toInt) → (TXK K H4877 s.heap a0 a1 (10 + x4880.toNatClampNeg)) → (2 - x4880.toInt < (nf : Int)) → (x4881.toInt = u1.toInt) → W p l e ({ frames := 2, cells := 0, slots := 0, locals := 62 } : Room) s m (([.ref a0, .ref a1] : List Value).toArray) below meth c H4877 locsH4877 0 0 Q (F0 m 41 ls4878 []) := by
        intro nf
        induction nf with
        | zero =>
          intro ls4878 H4877 locsH4877 x4880 x4881 x4882 x4883 x4884 x4885 x4886 hl4879 hTH4877 hSH4877 bx4880 bx4881 bx4882 bx4884 bx4885 bx4886 ex4881 ex4882 ex4883 ex4884 ex4885 ex4886 cy4887_0 cy4887_1 cy4887_2 cy4887_3 cy4887_4 cy4887_5 fy4887_rw fy4887_bx fy4887_tx hm41 iv41
          have rx4883 := i_rng x4883
          exfalso
          omega
        | succ nf ih41 =>
          intro ls4878 H4877 locsH4877 x4880 x4881 x4882 x4883 x4884 x4885 x4886 hl4879 hTH4877 hSH4877 bx4880 bx4881 bx4882 bx4884 bx4885 bx4886 ex4881 ex4882 ex4883 ex4884 ex4885 ex4886 cy4887_0 cy4887_1 cy4887_2 cy4887_3 cy4887_4 cy4887_5 fy4887_rw fy4887_bx fy4887_tx hm41 iv41
          have rx4883 := i_rng x4883
          have J69 : ∀ (nf : Nat) (ls4889 : Array Slot) (H4888 : Heap) (locsH4888 : List Loc) (x4891 : Int32) (x4892 : Int32) (x4893 : Int32) (x4894 : Int32) (x4895 : Int32) (x4896 : Int32) (x4897 : Int32), lv_has ls4889 3 [(0, .ref a0), (1, .ref a1), (2, .int x4891)] → TY K G H4888 → va_S (AE G [34, 35, 36, 37, 38, 39, 40, 41, 42, 43, 44, 46, 48, 49, 50, 51, 52, 53, 54, 55, 56, 57, 58, 62, 63, 64, 65, 66, 67] s.heap.size) s.heap H4888 locsH4888 → (0 ≤ x4891.toInt ∧ x4891.toInt ≤ 4) → (0 ≤ x4892.toInt ∧ x4892.toInt ≤ 10) → (0 ≤ x4893.toInt ∧ x4893.toInt ≤ 1) → (0 ≤ x4895.toInt ∧ x4895.toInt ≤ 20) → (0 ≤ x4896.toInt ∧ x4896.toInt ≤ 8) → (0 ≤ x4897.toInt ∧ x4897.toInt ≤ 8) → (x4892 = fI H4888 a0 (K.1.2 8 1)) → (x4893 = fI H4888 a0 (K.1.2 8 4)) → (x4894 = fI H4888 a0 (K.1.2 8 5)) → (x4895 = fI H4888 a0 (K.1.2 8 10)) → (x4896 = fI H4888 a0 (K.1.2 8 13)) → (x4897 = fI H4888 a0 (K.1.2 8 16)) → (u1 = fI H4888 a1 (K.1.2 8 1)) → (u4 = fI H4888 a1 (K.1.2 8 4)) → (u5 = fI H4888 a1 (K.1.2 8 5)) → (u10 = fI H4888 a1 (K.1.2 8 10)) → (u13 = fI H4888 a1 (K.1.2 8 13)) → (u16 = fI H4888 a1 (K.1.2 8 16)) → (RFW K H4888 s.heap a0) → (BXT K H4888 s.heap a0 a1 u1.toInt) → (TXK K H4888 s.heap a0 a1 (12 + x4891.toNatClampNeg)) → (4 - x4891.toInt < (nf : Int)) → (x4892.toInt = u1.toInt) → W p l e ({ frames := 2, cells := 0, slots := 0, locals := 62 } : Room) s m (([.ref a0, .ref a1] : List Value).toArray) below meth c H4888 locsH4888 0 0 Q (F0 m 69 ls4889 []) := by
            intro nf
            induction nf with
            | zero =>
              intro ls4889 H4888 locsH4888 x4891 x4892 x4893 x4894 x4895 x4896 x4897 hl4890 hTH4888 hSH4888 bx4891 bx4892 bx4893 bx4895 bx4896 bx4897 ex4892 ex4893 ex4894 ex4895 ex4896 ex4897 cy4898_0 cy4898_1 cy4898_2 cy4898_3 cy4898_4 cy4898_5 fy4898_rw fy4898_bx fy4898_tx hm69 iv69
              have rx4894 := i_rng x4894
              exfalso
              omega
            | succ nf ih69 =>
              intro ls4889 H4888 locsH4888 x4891 x4892 x4893 x4894 x4895 x4896 x4897 hl4890 hTH4888 hSH4888 bx4891 bx4892 bx4893 bx4895 bx4896 bx4897 ex4892 ex4893 ex4894 ex4895 ex4896 ex4897 cy4898_0 cy4898_1 cy4898_2 cy4898_3 cy4898_4 cy4898_5 fy4898_rw fy4898_bx fy4898_tx hm69 iv69
              have rx4894 := i_rng x4894
              refine lv_iload_n hx hb dX8_copyFrom_69 rfl (lv_at hl4890 2 rfl) ?_
              refine lv_iconst (v := 4) hx hb dX8_copyFrom_70 (by decide) ?_
              refine lv_icmp_ge (tgt := 95) hx hb dX8_copyFrom_71 (by decide) (fun c4899 => ?_) (fun c4899 => ?_)
              · have k4900 := i_le c4899
                have cl_ := i_cl (x := x4891) (by omega)
                refine lv_aload_n hx hb dX8_copyFrom_95 rfl (lv_at hl4890 0 rfl) ?_
                refine lv_aload_n hx hb dX8_copyFrom_96 rfl (lv_at hl4890 1 rfl) ?_
                refine x_gi C hTH4888 (ci := 8) (k := 4) rfl inX8 (by decide) wF_X8_54 ga1 rg_0 rfl dX8_copyFrom_97 (fun x4901 ex4901 bx4901 => ?_)
                have ux4901 : u4 = x4901 := (cy4898_1).trans ex4901.symm
                subst ux4901
                refine x_put C hTH4888 hSH4888 (ci := 8) (k := 4) (v := .int u4) (ty0 := tyX8) rfl inX8 tyX8_ok nmX8 (by decide) rfl wF_X8_54 ga0 rg_34 rfl rfl (okI (by omega) (by omega)) rfl rfl (AE_in ga0 (by decide)) dX8_copyFrom_100 (fun H4902 locsH4902 hTH4902 hSH4902 wH4902 => ?_)
                have f4903 : RFW K H4902 s.heap a0 := RFW.tr (RFW.wrK hTH4888 ga0 wH4902 hap8 (by decide)) fy4898_rw
                have f4904 : BXT K H4902 s.heap a0 a1 u1.toInt := BXT.keptK hT ga0 hTH4888 (fun q t hq ht => wH4902.off (G_ne hq ga0 (by first | (intro z; simp only [List.mem_cons, List.not_mem_nil, or_false] at z <;> omega) | omega))) fy4898_bx
                have f4905 : TXK K H4902 s.heap a0 a1 (12 + x4891.toNatClampNeg) := TXK.keptK hT ga0 hTH4888 (fun q t hq ht => wH4902.off (G_ne hq ga0 (by first | (intro z; simp only [List.mem_cons, List.not_mem_nil, or_false] at z <;> omega) | omega))) fy4898_tx
                have m4906 := ex4892.trans (Wr.neI wH4902 (Or.inr (x_apart hKT hts inX8 tyX8 tyX8_ok nmX8 rfl 1 4 (by decide) (by decide) (by decide)))).symm
                have m4908 := ex4894.trans (Wr.neI wH4902 (Or.inr (x_apart hKT hts inX8 tyX8 tyX8_ok nmX8 rfl 5 4 (by decide) (by decide) (by decide)))).symm
                have m4909 := ex4895.trans (Wr.neI wH4902 (Or.inr (x_apart hKT hts inX8 tyX8 tyX8_ok nmX8 rfl 10 4 (by decide) (by decide) (by decide)))).symm
                have m4910 := ex4896.trans (Wr.neI wH4902 (Or.inr (x_apart hKT hts inX8 tyX8 tyX8_ok nmX8 rfl 13 4 (by decide) (by decide) (by decide)))).symm
                have m4911 := ex4897.trans (Wr.neI wH4902 (Or.inr (x_apart hKT hts inX8 tyX8 tyX8_ok nmX8 rfl 16 4 (by decide) (by decide) (by decide)))).symm
                have m4912 := cy4898_0.trans (Wr.neI wH4902 (Or.inl (G_ne ga1 ga0 (by decide)))).symm
                have m4913 := cy4898_1.trans (Wr.neI wH4902 (Or.inl (G_ne ga1 ga0 (by decide)))).symm
                have m4914 := cy4898_2.trans (Wr.neI wH4902 (Or.inl (G_ne ga1 ga0 (by decide)))).symm
                have m4915 := cy4898_3.trans (Wr.neI wH4902 (Or.inl (G_ne ga1 ga0 (by decide)))).symm
                have m4916 := cy4898_4.trans (Wr.neI wH4902 (Or.inl (G_ne ga1 ga0 (by decide)))).symm
                have m4917 := cy4898_5.trans (Wr.neI wH4902 (Or.inl (G_ne ga1 ga0 (by decide)))).symm
                have m4918 := Wr.I wH4902
                have m4918 := m4918.symm
                refine lv_aload_n hx hb dX8_copyFrom_103 rfl (lv_at hl4890 0 rfl) ?_
                refine lv_aload_n hx hb dX8_copyFrom_104 rfl (lv_at hl4890 1 rfl) ?_
                refine x_gi C hTH4902 (ci := 8) (k := 5) rfl inX8 (by decide) wF_X8_26 ga1 rg_0 rfl dX8_copyFrom_105 (fun x4919 ex4919 bx4919 => ?_)
                have ux4919 : u5 = x4919 := (m4914).trans ex4919.symm
                subst ux4919
                refine x_put C hTH4902 hSH4902 (ci := 8) (k := 5) (v := .int u5) (ty0 := tyX8) rfl inX8 tyX8_ok nmX8 (by decide) rfl wF_X8_26 ga0 rg_34 rfl rfl (okI (i_rng u5).1 (i_rng u5).2) rfl rfl (AE_in ga0 (by decide)) dX8_copyFrom_108 (fun H4920 locsH4920 hTH4920 hSH4920 wH4920 => ?_)
                have f4921 : RFW K H4920 s.heap a0 := RFW.tr (RFW.wrK hTH4902 ga0 wH4920 hap8 (by decide)) f4903
                have f4922 : BXT K H4920 s.heap a0 a1 u1.toInt := BXT.keptK hT ga0 hTH4902 (fun q t hq ht => wH4920.off (G_ne hq ga0 (by first | (intro z; simp only [List.mem_cons, List.not_mem_nil, or_false] at z <;> omega) | omega))) f4904
                have f4923 : TXK K H4920 s.heap a0 a1 (12 + x4891.toNatClampNeg) := TXK.keptK hT ga0 hTH4902 (fun q t hq ht => wH4920.off (G_ne hq ga0 (by first | (intro z; simp only [List.mem_cons, List.not_mem_nil, or_false] at z <;> omega) | omega))) f4905
                have m4924 := m4906.trans (Wr.neI wH4920 (Or.inr (x_apart hKT hts inX8 tyX8 tyX8_ok nmX8 rfl 1 5 (by decide) (by decide) (by decide)))).symm
                have m4926 := m4909.trans (Wr.neI wH4920 (Or.inr (x_apart hKT hts inX8 tyX8 tyX8_ok nmX8 rfl 10 5 (by decide) (by decide) (by decide)))).symm
                have m4927 := m4910.trans (Wr.neI wH4920 (Or.inr (x_apart hKT hts inX8 tyX8 tyX8_ok nmX8 rfl 13 5 (by decide) (by decide) (by decide)))).symm
                have m4928 := m4911.trans (Wr.neI wH4920 (Or.inr (x_apart hKT hts inX8 tyX8 tyX8_ok nmX8 rfl 16 5 (by decide) (by decide) (by decide)))).symm
                have m4929 := m4912.trans (Wr.neI wH4920 (Or.inl (G_ne ga1 ga0 (by decide)))).symm
                have m4930 := m4913.trans (Wr.neI wH4920 (Or.inl (G_ne ga1 ga0 (by decide)))).symm
                have m4931 := m4914.trans (Wr.neI wH4920 (Or.inl (G_ne ga1 ga0 (by decide)))).symm
                have m4932 := m4915.trans (Wr.neI wH4920 (Or.inl (G_ne ga1 ga0 (by decide)))).symm
                have m4933 := m4916.trans (Wr.neI wH4920 (Or.inl (G_ne ga1 ga0 (by decide)))).symm
                have m4934 := m4917.trans (Wr.neI wH4920 (Or.inl (G_ne ga1 ga0 (by decide)))).symm
                have m4935 := m4918.trans (Wr.neI wH4920 (Or.inr (x_apart hKT hts inX8 tyX8 tyX8_ok nmX8 rfl 4 5 (by decide) (by decide) (by decide)))).symm
                have m4936 := Wr.I wH4920
                have m4936 := m4936.symm
                refine lv_aload_n hx hb dX8_copyFrom_111 rfl (lv_at hl4890 0 rfl) ?_
                refine lv_aload_n hx hb dX8_copyFrom_112 rfl (lv_at hl4890 1 rfl) ?_
                refine x_gi C hTH4920 (ci := 8) (k := 6) rfl inX8 (by decide) wF_X8_67 ga1 rg_0 rfl dX8_copyFrom_113 (fun x4937 ex4937 bx4937 => ?_)
                refine x_put C hTH4920 hSH4920 (ci := 8) (k := 6) (v := .int x4937) (ty0 := tyX8) rfl inX8 tyX8_ok nmX8 (by decide) rfl wF_X8_67 ga0 rg_34 rfl rfl (okI bx4937.1 bx4937.2) rfl rfl (AE_in ga0 (by decide)) dX8_copyFrom_116 (fun H4938 locsH4938 hTH4938 hSH4938 wH4938 => ?_)
                clear f4903 f4904 f4905 m4906 m4908 m4909 m4910 m4911 m4912 m4913 m4914 m4915 m4916 m4917 m4918
                have f4939 : RFW K H4938 s.heap a0 := RFW.tr (RFW.wrK hTH4920 ga0 wH4938 hap8 (by decide)) f4921
                have f4940 : BXT K H4938 s.heap a0 a1 u1.toInt := BXT.keptK hT ga0 hTH4920 (fun q t hq ht => wH4938.off (G_ne hq ga0 (by first | (intro z; simp only [List.mem_cons, List.not_mem_nil, or_false] at z <;> omega) | omega))) f4922
                have f4941 : TXK K H4938 s.heap a0 a1 (12 + x4891.toNatClampNeg) := TXK.keptK hT ga0 hTH4920 (fun q t hq ht => wH4938.off (G_ne hq ga0 (by first | (intro z; simp only [List.mem_cons, List.not_mem_nil, or_false] at z <;> omega) | omega))) f4923
                have m4942 := m4924.trans (Wr.neI wH4938 (Or.inr (x_apart hKT hts inX8 tyX8 tyX8_ok nmX8 rfl 1 6 (by decide) (by decide) (by decide)))).symm
                have m4943 := m4926.trans (Wr.neI wH4938 (Or.inr (x_apart hKT hts inX8 tyX8 tyX8_ok nmX8 rfl 10 6 (by decide) (by decide) (by decide)))).symm
                have m4944 := m4927.trans (Wr.neI wH4938 (Or.inr (x_apart hKT hts inX8 tyX8 tyX8_ok nmX8 rfl 13 6 (by decide) (by decide) (by decide)))).symm
                have m4945 := m4928.trans (Wr.neI wH4938 (Or.inr (x_apart hKT hts inX8 tyX8 tyX8_ok nmX8 rfl 16 6 (by decide) (by decide) (by decide)))).symm
                have m4946 := m4929.trans (Wr.neI wH4938 (Or.inl (G_ne ga1 ga0 (by decide)))).symm
                have m4947 := m4930.trans (Wr.neI wH4938 (Or.inl (G_ne ga1 ga0 (by decide)))).symm
                have m4948 := m4931.trans (Wr.neI wH4938 (Or.inl (G_ne ga1 ga0 (by decide)))).symm
                have m4949 := m4932.trans (Wr.neI wH4938 (Or.inl (G_ne ga1 ga0 (by decide)))).symm
                have m4950 := m4933.trans (Wr.neI wH4938 (Or.inl (G_ne ga1 ga0 (by decide)))).symm
                have m4951 := m4934.trans (Wr.neI wH4938 (Or.inl (G_ne ga1 ga0 (by decide)))).symm
                have m4952 := m4935.trans (Wr.neI wH4938 (Or.inr (x_apart hKT hts inX8 tyX8 tyX8_ok nmX8 rfl 4 6 (by decide) (by decide) (by decide)))).symm
                have m4953 := m4936.trans (Wr.neI wH4938 (Or.inr (x_apart hKT hts inX8 tyX8 tyX8_ok nmX8 rfl 5 6 (by decide) (by decide) (by decide)))).symm
                have m4954 := ex4937.trans (Wr.neI wH4938 (Or.inl (G_ne ga1 ga0 (by decide)))).symm
                have m4955 := Wr.I wH4938
                have m4955 := m4955.symm
                refine lv_aload_n hx hb dX8_copyFrom_119 rfl (lv_at hl4890 0 rfl) ?_
                refine lv_aload_n hx hb dX8_copyFrom_120 rfl (lv_at hl4890 1 rfl) ?_
                refine x_gi C hTH4938 (ci := 8) (k := 7) rfl inX8 (by decide) wF_X8_30 ga1 rg_0 rfl dX8_copyFrom_121 (fun x4956 ex4956 bx4956 => ?_)
                refine x_put C hTH4938 hSH4938 (ci := 8) (k := 7) (v := .int x4956) (ty0 := tyX8) rfl inX8 tyX8_ok nmX8 (by decide) rfl wF_X8_30 ga0 rg_34 rfl rfl (okI bx4956.1 bx4956.2) rfl rfl (AE_in ga0 (by decide)) dX8_copyFrom_124 (fun H4957 locsH4957 hTH4957 hSH4957 wH4957 => ?_)
                clear f4921 f4922 f4923 m4924 m4926 m4927 m4928 m4929 m4930 m4931 m4932 m4933 m4934 m4935 m4936
                have f4958 : RFW K H4957 s.heap a0 := RFW.tr (RFW.wrK hTH4938 ga0 wH4957 hap8 (by decide)) f4939
                have f4959 : BXT K H4957 s.heap a0 a1 u1.toInt := BXT.keptK hT ga0 hTH4938 (fun q t hq ht => wH4957.off (G_ne hq ga0 (by first | (intro z; simp only [List.mem_cons, List.not_mem_nil, or_false] at z <;> omega) | omega))) f4940
                have f4960 : TXK K H4957 s.heap a0 a1 (12 + x4891.toNatClampNeg) := TXK.keptK hT ga0 hTH4938 (fun q t hq ht => wH4957.off (G_ne hq ga0 (by first | (intro z; simp only [List.mem_cons, List.not_mem_nil, or_false] at z <;> omega) | omega))) f4941
                have m4961 := m4942.trans (Wr.neI wH4957 (Or.inr (x_apart hKT hts inX8 tyX8 tyX8_ok nmX8 rfl 1 7 (by decide) (by decide) (by decide)))).symm
                have m4962 := m4943.trans (Wr.neI wH4957 (Or.inr (x_apart hKT hts inX8 tyX8 tyX8_ok nmX8 rfl 10 7 (by decide) (by decide) (by decide)))).symm
                have m4963 := m4944.trans (Wr.neI wH4957 (Or.inr (x_apart hKT hts inX8 tyX8 tyX8_ok nmX8 rfl 13 7 (by decide) (by decide) (by decide)))).symm
                have m4964 := m4945.trans (Wr.neI wH4957 (Or.inr (x_apart hKT hts inX8 tyX8 tyX8_ok nmX8 rfl 16 7 (by decide) (by decide) (by decide)))).symm
                have m4965 := m4946.trans (Wr.neI wH4957 (Or.inl (G_ne ga1 ga0 (by decide)))).symm
                have m4966 := m4947.trans (Wr.neI wH4957 (Or.inl (G_ne ga1 ga0 (by decide)))).symm
                have m4967 := m4948.trans (Wr.neI wH4957 (Or.inl (G_ne ga1 ga0 (by decide)))).symm
                have m4968 := m4949.trans (Wr.neI wH4957 (Or.inl (G_ne ga1 ga0 (by decide)))).symm
                have m4969 := m4950.trans (Wr.neI wH4957 (Or.inl (G_ne ga1 ga0 (by decide)))).symm
                have m4970 := m4951.trans (Wr.neI wH4957 (Or.inl (G_ne ga1 ga0 (by decide)))).symm
                have m4971 := m4952.trans (Wr.neI wH4957 (Or.inr (x_apart hKT hts inX8 tyX8 tyX8_ok nmX8 rfl 4 7 (by decide) (by decide) (by decide)))).symm
                have m4972 := m4953.trans (Wr.neI wH4957 (Or.inr (x_apart hKT hts inX8 tyX8 tyX8_ok nmX8 rfl 5 7 (by decide) (by decide) (by decide)))).symm
                have m4973 := m4954.trans (Wr.neI wH4957 (Or.inl (G_ne ga1 ga0 (by decide)))).symm
                have m4974 := m4955.trans (Wr.neI wH4957 (Or.inr (x_apart hKT hts inX8 tyX8 tyX8_ok nmX8 rfl 6 7 (by decide) (by decide) (by decide)))).symm
                have m4975 := ex4956.trans (Wr.neI wH4957 (Or.inl (G_ne ga1 ga0 (by decide)))).symm
                have m4976 := Wr.I wH4957
                have m4976 := m4976.symm
                refine lv_aload_n hx hb dX8_copyFrom_127 rfl (lv_at hl4890 1 rfl) ?_
                refine x_gr C hTH4957 (ci := 8) (k := 8) rfl inX8 (by decide) wF_X8_33 ga1 rg_0 rfl dX8_copyFrom_128 (fun q4977 eq4977 gq4977 => ?_)
                replace eq4977 : @Eq Ad q4977 (fR H4957 a1 (K.1.2 8 8)) := eq4977
                refine lv_iconst (v := 0) hx hb dX8_copyFrom_131 (by decide) ?_
                refine lv_aload_n hx hb dX8_copyFrom_132 rfl (lv_at hl4890 0 rfl) ?_
                refine x_gr C hTH4957 (ci := 8) (k := 8) rfl inX8 (by decide) wF_X8_33 ga0 rg_34 rfl dX8_copyFrom_133 (fun q4978 eq4978 gq4978 => ?_)
                replace eq4978 : @Eq Ad q4978 (fR H4957 a0 (K.1.2 8 8)) := eq4978
                refine lv_iconst (v := 0) hx hb dX8_copyFrom_136 (by decide) ?_
                refine lv_bipush (v := 20) hx hb dX8_copyFrom_137 (by decide) ?_
                refine x_copy C hTH4957 hSH4957 wM_X8_70 wNT_arraycopy wST_arraycopy wIN_J10 gq4977 gq4978 rg_28 rg_62 (by decide) (by omega) (by omega) (by omega) (by show _ ≤ ((20 : Nat) : Int); omega) (by show _ ≤ ((20 : Nat) : Int); omega) (AE_in gq4978 (by decide)) hl4890.1 (by decide) dX8_copyFrom_139 (fun H4979 locsH4979 hTH4979 hSH4979 zH4979 oH4979 vH4979 wH4979 => ?_)
                have m4980 := (m4961).trans (fI_kept (oH4979 _ (G_ne ga0 gq4978 (by decide)))).symm
                have m4981 := (m4962).trans (fI_kept (oH4979 _ (G_ne ga0 gq4978 (by decide)))).symm
                have m4982 := (m4963).trans (fI_kept (oH4979 _ (G_ne ga0 gq4978 (by decide)))).symm
                have m4983 := (m4964).trans (fI_kept (oH4979 _ (G_ne ga0 gq4978 (by decide)))).symm
                have m4984 := (m4965).trans (fI_kept (oH4979 _ (G_ne ga1 gq4978 (by decide)))).symm
                have m4985 := (m4966).trans (fI_kept (oH4979 _ (G_ne ga1 gq4978 (by decide)))).symm
                have m4986 := (m4967).trans (fI_kept (oH4979 _ (G_ne ga1 gq4978 (by decide)))).symm
                have m4987 := (m4968).trans (fI_kept (oH4979 _ (G_ne ga1 gq4978 (by decide)))).symm
                have m4988 := (m4969).trans (fI_kept (oH4979 _ (G_ne ga1 gq4978 (by decide)))).symm
                have m4989 := (m4970).trans (fI_kept (oH4979 _ (G_ne ga1 gq4978 (by decide)))).symm
                have m4990 := (m4971).trans (fI_kept (oH4979 _ (G_ne ga0 gq4978 (by decide)))).symm
                have m4991 := (m4972).trans (fI_kept (oH4979 _ (G_ne ga0 gq4978 (by decide)))).symm
                have m4992 := (m4973).trans (fI_kept (oH4979 _ (G_ne ga1 gq4978 (by decide)))).symm
                have m4993 := (m4974).trans (fI_kept (oH4979 _ (G_ne ga0 gq4978 (by decide)))).symm
                have m4994 := (m4975).trans (fI_kept (oH4979 _ (G_ne ga1 gq4978 (by decide)))).symm
                have m4995 := (m4976).trans (fI_kept (oH4979 _ (G_ne ga0 gq4978 (by decide)))).symm
                have m4996 := (eq4977).trans (fR_kept (oH4979 _ (G_ne ga1 gq4978 (by decide)))).symm
                have m4997 := (eq4978).trans (fR_kept (oH4979 _ (G_ne ga0 gq4978 (by decide)))).symm
                have f4998 : RFW K H4979 s.heap a0 := RFW.tr (RFW.cellK hTH4957 ga0 (fun q t hq ht => oH4979 _ (G_ne hq gq4978 (by first | (intro z; simp only [List.mem_cons, List.not_mem_nil, or_false] at z <;> omega) | omega)))) f4958
                have f4999 : BXT K H4979 s.heap a0 a1 u1.toInt := BXT.keptK hT ga0 hTH4957 (fun q t hq ht => oH4979 _ (G_ne hq gq4978 (by first | (intro z; simp only [List.mem_cons, List.not_mem_nil, or_false] at z <;> omega) | omega))) f4959
                have f5000 : TXK K H4979 s.heap a0 a1 (12 + x4891.toNatClampNeg) := TXK.keptK hT ga0 hTH4957 (fun q t hq ht => oH4979 _ (G_ne hq gq4978 (by first | (intro z; simp only [List.mem_cons, List.not_mem_nil, or_false] at z <;> omega) | omega))) f4960
                refine lv_aload_n hx hb dX8_copyFrom_142 rfl (lv_at hl4890 1 rfl) ?_
                refine x_gr C hTH4979 (ci := 8) (k := 9) rfl inX8 (by decide) wF_X8_37 ga1 rg_0 rfl dX8_copyFrom_143 (fun q5001 eq5001 gq5001 => ?_)
                replace eq5001 : @Eq Ad q5001 (fR H4979 a1 (K.1.2 8 9)) := eq5001
                refine lv_iconst (v := 0) hx hb dX8_copyFrom_146 (by decide) ?_
                refine lv_aload_n hx hb dX8_copyFrom_147 rfl (lv_at hl4890 0 rfl) ?_
                refine x_gr C hTH4979 (ci := 8) (k := 9) rfl inX8 (by decide) wF_X8_37 ga0 rg_34 rfl dX8_copyFrom_148 (fun q5002 eq5002 gq5002 => ?_)
                replace eq5002 : @Eq Ad q5002 (fR H4979 a0 (K.1.2 8 9)) := eq5002
                refine lv_iconst (v := 0) hx hb dX8_copyFrom_151 (by decide) ?_
                refine lv_bipush (v := 20) hx hb dX8_copyFrom_152 (by decide) ?_
                refine x_copy C hTH4979 hSH4979 wM_X8_70 wNT_arraycopy wST_arraycopy wIN_J10 gq5001 gq5002 rg_29 rg_63 (by decide) (by omega) (by omega) (by omega) (by show _ ≤ ((20 : Nat) : Int); omega) (by show _ ≤ ((20 : Nat) : Int); omega) (AE_in gq5002 (by decide)) hl4890.1 (by decide) dX8_copyFrom_154 (fun H5003 locsH5003 hTH5003 hSH5003 zH5003 oH5003 vH5003 wH5003 => ?_)
                have m5004 := (m4980).trans (fI_kept (oH5003 _ (G_ne ga0 gq5002 (by decide)))).symm
                have m5005 := (m4981).trans (fI_kept (oH5003 _ (G_ne ga0 gq5002 (by decide)))).symm
                have m5006 := (m4982).trans (fI_kept (oH5003 _ (G_ne ga0 gq5002 (by decide)))).symm
                have m5007 := (m4983).trans (fI_kept (oH5003 _ (G_ne ga0 gq5002 (by decide)))).symm
                have m5008 := (m4984).trans (fI_kept (oH5003 _ (G_ne ga1 gq5002 (by decide)))).symm
                have m5009 := (m4985).trans (fI_kept (oH5003 _ (G_ne ga1 gq5002 (by decide)))).symm
                have m5010 := (m4986).trans (fI_kept (oH5003 _ (G_ne ga1 gq5002 (by decide)))).symm
                have m5011 := (m4987).trans (fI_kept (oH5003 _ (G_ne ga1 gq5002 (by decide)))).symm
                have m5012 := (m4988).trans (fI_kept (oH5003 _ (G_ne ga1 gq5002 (by decide)))).symm
                have m5013 := (m4989).trans (fI_kept (oH5003 _ (G_ne ga1 gq5002 (by decide)))).symm
                have m5014 := (m4990).trans (fI_kept (oH5003 _ (G_ne ga0 gq5002 (by decide)))).symm
                have m5015 := (m4991).trans (fI_kept (oH5003 _ (G_ne ga0 gq5002 (by decide)))).symm
                have m5016 := (m4992).trans (fI_kept (oH5003 _ (G_ne ga1 gq5002 (by decide)))).symm
                have m5017 := (m4993).trans (fI_kept (oH5003 _ (G_ne ga0 gq5002 (by decide)))).symm
                have m5018 := (m4994).trans (fI_kept (oH5003 _ (G_ne ga1 gq5002 (by decide)))).symm
                have m5019 := (m4995).trans (fI_kept (oH5003 _ (G_ne ga0 gq5002 (by decide)))).symm
                have m5020 := (m4996).trans (fR_kept (oH5003 _ (G_ne ga1 gq5002 (by decide)))).symm
                have m5021 := (m4997).trans (fR_kept (oH5003 _ (G_ne ga0 gq5002 (by decide)))).symm
                have m5022 := (eq5001).trans (fR_kept (oH5003 _ (G_ne ga1 gq5002 (by decide)))).symm
                have m5023 := (eq5002).trans (fR_kept (oH5003 _ (G_ne ga0 gq5002 (by decide)))).symm
                have f5024 : RFW K H5003 s.heap a0 := RFW.tr (RFW.cellK hTH4979 ga0 (fun q t hq ht => oH5003 _ (G_ne hq gq5002 (by first | (intro z; simp only [List.mem_cons, List.not_mem_nil, or_false] at z <;> omega) | omega)))) f4998
                have f5025 : BXT K H5003 s.heap a0 a1 u1.toInt := BXT.keptK hT ga0 hTH4979 (fun q t hq ht => oH5003 _ (G_ne hq gq5002 (by first | (intro z; simp only [List.mem_cons, List.not_mem_nil, or_false] at z <;> omega) | omega))) f4999
                have f5026 : TXK K H5003 s.heap a0 a1 (12 + x4891.toNatClampNeg) := TXK.keptK hT ga0 hTH4979 (fun q t hq ht => oH5003 _ (G_ne hq gq5002 (by first | (intro z; simp only [List.mem_cons, List.not_mem_nil, or_false] at z <;> omega) | omega))) f5000
                refine lv_aload_n hx hb dX8_copyFrom_157 rfl (lv_at hl4890 0 rfl) ?_
                refine lv_aload_n hx hb dX8_copyFrom_158 rfl (lv_at hl4890 1 rfl) ?_
                refine x_gi C hTH5003 (ci := 8) (k := 10) rfl inX8 (by decide) wF_X8_76 ga1 rg_0 rfl dX8_copyFrom_159 (fun x5027 ex5027 bx5027 => ?_)
                have ux5027 : u10 = x5027 := (m5011).trans ex5027.symm
                subst ux5027
                refine x_put C hTH5003 hSH5003 (ci := 8) (k := 10) (v := .int u10) (ty0 := tyX8) rfl inX8 tyX8_ok nmX8 (by decide) rfl wF_X8_76 ga0 rg_34 rfl rfl (okI (by omega) (by omega)) rfl rfl (AE_in ga0 (by decide)) dX8_copyFrom_162 (fun H5028 locsH5028 hTH5028 hSH5028 wH5028 => ?_)
                clear f4939 f4940 f4941 m4942 m4943 m4944 m4945 m4946 m4947 m4948 m4949 m4950 m4951 m4952 m4953 m4954 m4955
                have f5029 : RFW K H5028 s.heap a0 := RFW.tr (RFW.wrK hTH5003 ga0 wH5028 hap8 (by decide)) f5024
                have f5030 : BXT K H5028 s.heap a0 a1 u1.toInt := BXT.keptK hT ga0 hTH5003 (fun q t hq ht => wH5028.off (G_ne hq ga0 (by first | (intro z; simp only [List.mem_cons, List.not_mem_nil, or_false] at z <;> omega) | omega))) f5025
                have f5031 : TXK K H5028 s.heap a0 a1 (12 + x4891.toNatClampNeg) := TXK.keptK hT ga0 hTH5003 (fun q t hq ht => wH5028.off (G_ne hq ga0 (by first | (intro z; simp only [List.mem_cons, List.not_mem_nil, or_false] at z <;> omega) | omega))) f5026
                have m5032 := m5004.trans (Wr.neI wH5028 (Or.inr (x_apart hKT hts inX8 tyX8 tyX8_ok nmX8 rfl 1 10 (by decide) (by decide) (by decide)))).symm
                have m5034 := m5006.trans (Wr.neI wH5028 (Or.inr (x_apart hKT hts inX8 tyX8 tyX8_ok nmX8 rfl 13 10 (by decide) (by decide) (by decide)))).symm
                have m5035 := m5007.trans (Wr.neI wH5028 (Or.inr (x_apart hKT hts inX8 tyX8 tyX8_ok nmX8 rfl 16 10 (by decide) (by decide) (by decide)))).symm
                have m5036 := m5008.trans (Wr.neI wH5028 (Or.inl (G_ne ga1 ga0 (by decide)))).symm
                have m5037 := m5009.trans (Wr.neI wH5028 (Or.inl (G_ne ga1 ga0 (by decide)))).symm
                have m5038 := m5010.trans (Wr.neI wH5028 (Or.inl (G_ne ga1 ga0 (by decide)))).symm
                have m5039 := m5011.trans (Wr.neI wH5028 (Or.inl (G_ne ga1 ga0 (by decide)))).symm
                have m5040 := m5012.trans (Wr.neI wH5028 (Or.inl (G_ne ga1 ga0 (by decide)))).symm
                have m5041 := m5013.trans (Wr.neI wH5028 (Or.inl (G_ne ga1 ga0 (by decide)))).symm
                have m5042 := m5014.trans (Wr.neI wH5028 (Or.inr (x_apart hKT hts inX8 tyX8 tyX8_ok nmX8 rfl 4 10 (by decide) (by decide) (by decide)))).symm
                have m5043 := m5015.trans (Wr.neI wH5028 (Or.inr (x_apart hKT hts inX8 tyX8 tyX8_ok nmX8 rfl 5 10 (by decide) (by decide) (by decide)))).symm
                have m5044 := m5016.trans (Wr.neI wH5028 (Or.inl (G_ne ga1 ga0 (by decide)))).symm
                have m5045 := m5017.trans (Wr.neI wH5028 (Or.inr (x_apart hKT hts inX8 tyX8 tyX8_ok nmX8 rfl 6 10 (by decide) (by decide) (by decide)))).symm
                have m5046 := m5018.trans (Wr.neI wH5028 (Or.inl (G_ne ga1 ga0 (by decide)))).symm
                have m5047 := m5019.trans (Wr.neI wH5028 (Or.inr (x_apart hKT hts inX8 tyX8 tyX8_ok nmX8 rfl 7 10 (by decide) (by decide) (by decide)))).symm
                have m5048 := m5020.trans (Wr.neR wH5028 (Or.inl (G_ne ga1 ga0 (by decide)))).symm
                have m5049 := m5021.trans (Wr.neR wH5028 (Or.inr (x_apart hKT hts inX8 tyX8 tyX8_ok nmX8 rfl 8 10 (by decide) (by decide) (by decide)))).symm
                have m5050 := m5022.trans (Wr.neR wH5028 (Or.inl (G_ne ga1 ga0 (by decide)))).symm
                have m5051 := m5023.trans (Wr.neR wH5028 (Or.inr (x_apart hKT hts inX8 tyX8 tyX8_ok nmX8 rfl 9 10 (by decide) (by decide) (by decide)))).symm
                have m5052 := Wr.I wH5028
                have m5052 := m5052.symm
                refine lv_aload_n hx hb dX8_copyFrom_165 rfl (lv_at hl4890 1 rfl) ?_
                refine x_gr C hTH5028 (ci := 8) (k := 11) rfl inX8 (by decide) wF_X8_40 ga1 rg_0 rfl dX8_copyFrom_166 (fun q5053 eq5053 gq5053 => ?_)
                replace eq5053 : @Eq Ad q5053 (fR H5028 a1 (K.1.2 8 11)) := eq5053
                refine lv_iconst (v := 0) hx hb dX8_copyFrom_169 (by decide) ?_
                refine lv_aload_n hx hb dX8_copyFrom_170 rfl (lv_at hl4890 0 rfl) ?_
                refine x_gr C hTH5028 (ci := 8) (k := 11) rfl inX8 (by decide) wF_X8_40 ga0 rg_34 rfl dX8_copyFrom_171 (fun q5054 eq5054 gq5054 => ?_)
                replace eq5054 : @Eq Ad q5054 (fR H5028 a0 (K.1.2 8 11)) := eq5054
                refine lv_iconst (v := 0) hx hb dX8_copyFrom_174 (by decide) ?_
                refine lv_bipush (v := 8) hx hb dX8_copyFrom_175 (by decide) ?_
                refine x_copy C hTH5028 hSH5028 wM_X8_70 wNT_arraycopy wST_arraycopy wIN_J10 gq5053 gq5054 rg_30 rg_64 (by decide) (by omega) (by omega) (by omega) (by show _ ≤ ((8 : Nat) : Int); omega) (by show _ ≤ ((8 : Nat) : Int); omega) (AE_in gq5054 (by decide)) hl4890.1 (by decide) dX8_copyFrom_177 (fun H5055 locsH5055 hTH5055 hSH5055 zH5055 oH5055 vH5055 wH5055 => ?_)
                have m5056 := (m5032).trans (fI_kept (oH5055 _ (G_ne ga0 gq5054 (by decide)))).symm
                have m5057 := (m5034).trans (fI_kept (oH5055 _ (G_ne ga0 gq5054 (by decide)))).symm
                have m5058 := (m5035).trans (fI_kept (oH5055 _ (G_ne ga0 gq5054 (by decide)))).symm
                have m5059 := (m5036).trans (fI_kept (oH5055 _ (G_ne ga1 gq5054 (by decide)))).symm
                have m5060 := (m5037).trans (fI_kept (oH5055 _ (G_ne ga1 gq5054 (by decide)))).symm
                have m5061 := (m5038).trans (fI_kept (oH5055 _ (G_ne ga1 gq5054 (by decide)))).symm
                have m5062 := (m5039).trans (fI_kept (oH5055 _ (G_ne ga1 gq5054 (by decide)))).symm
                have m5063 := (m5040).trans (fI_kept (oH5055 _ (G_ne ga1 gq5054 (by decide)))).symm
                have m5064 := (m5041).trans (fI_kept (oH5055 _ (G_ne ga1 gq5054 (by decide)))).symm
                have m5065 := (m5042).trans (fI_kept (oH5055 _ (G_ne ga0 gq5054 (by decide)))).symm
                have m5066 := (m5043).trans (fI_kept (oH5055 _ (G_ne ga0 gq5054 (by decide)))).symm
                have m5067 := (m5044).trans (fI_kept (oH5055 _ (G_ne ga1 gq5054 (by decide)))).symm
                have m5068 := (m5045).trans (fI_kept (oH5055 _ (G_ne ga0 gq5054 (by decide)))).symm
                have m5069 := (m5046).trans (fI_kept (oH5055 _ (G_ne ga1 gq5054 (by decide)))).symm
                have m5070 := (m5047).trans (fI_kept (oH5055 _ (G_ne ga0 gq5054 (by decide)))).symm
                have m5071 := (m5048).trans (fR_kept (oH5055 _ (G_ne ga1 gq5054 (by decide)))).symm
                have m5072 := (m5049).trans (fR_kept (oH5055 _ (G_ne ga0 gq5054 (by decide)))).symm
                have m5073 := (m5050).trans (fR_kept (oH5055 _ (G_ne ga1 gq5054 (by decide)))).symm
                have m5074 := (m5051).trans (fR_kept (oH5055 _ (G_ne ga0 gq5054 (by decide)))).symm
                have m5075 := (m5052).trans (fI_kept (oH5055 _ (G_ne ga0 gq5054 (by decide)))).symm
                have m5076 := (eq5053).trans (fR_kept (oH5055 _ (G_ne ga1 gq5054 (by decide)))).symm
                have m5077 := (eq5054).trans (fR_kept (oH5055 _ (G_ne ga0 gq5054 (by decide)))).symm
                have f5078 : RFW K H5055 s.heap a0 := RFW.tr (RFW.cellK hTH5028 ga0 (fun q t hq ht => oH5055 _ (G_ne hq gq5054 (by first | (intro z; simp only [List.mem_cons, List.not_mem_nil, or_false] at z <;> omega) | omega)))) f5029
                have f5079 : BXT K H5055 s.heap a0 a1 u1.toInt := BXT.keptK hT ga0 hTH5028 (fun q t hq ht => oH5055 _ (G_ne hq gq5054 (by first | (intro z; simp only [List.mem_cons, List.not_mem_nil, or_false] at z <;> omega) | omega))) f5030
                have f5080 : TXK K H5055 s.heap a0 a1 (12 + x4891.toNatClampNeg) := TXK.keptK hT ga0 hTH5028 (fun q t hq ht => oH5055 _ (G_ne hq gq5054 (by first | (intro z; simp only [List.mem_cons, List.not_mem_nil, or_false] at z <;> omega) | omega))) f5031
                refine lv_aload_n hx hb dX8_copyFrom_180 rfl (lv_at hl4890 1 rfl) ?_
                refine x_gr C hTH5055 (ci := 8) (k := 12) rfl inX8 (by decide) wF_X8_43 ga1 rg_0 rfl dX8_copyFrom_181 (fun q5081 eq5081 gq5081 => ?_)
                replace eq5081 : @Eq Ad q5081 (fR H5055 a1 (K.1.2 8 12)) := eq5081
                refine lv_iconst (v := 0) hx hb dX8_copyFrom_184 (by decide) ?_
                refine lv_aload_n hx hb dX8_copyFrom_185 rfl (lv_at hl4890 0 rfl) ?_
                refine x_gr C hTH5055 (ci := 8) (k := 12) rfl inX8 (by decide) wF_X8_43 ga0 rg_34 rfl dX8_copyFrom_186 (fun q5082 eq5082 gq5082 => ?_)
                replace eq5082 : @Eq Ad q5082 (fR H5055 a0 (K.1.2 8 12)) := eq5082
                refine lv_iconst (v := 0) hx hb dX8_copyFrom_189 (by decide) ?_
                refine lv_bipush (v := 8) hx hb dX8_copyFrom_190 (by decide) ?_
                refine x_copy C hTH5055 hSH5055 wM_X8_70 wNT_arraycopy wST_arraycopy wIN_J10 gq5081 gq5082 rg_31 rg_65 (by decide) (by omega) (by omega) (by omega) (by show _ ≤ ((8 : Nat) : Int); omega) (by show _ ≤ ((8 : Nat) : Int); omega) (AE_in gq5082 (by decide)) hl4890.1 (by decide) dX8_copyFrom_192 (fun H5083 locsH5083 hTH5083 hSH5083 zH5083 oH5083 vH5083 wH5083 => ?_)
                have m5084 := (m5056).trans (fI_kept (oH5083 _ (G_ne ga0 gq5082 (by decide)))).symm
                have m5085 := (m5057).trans (fI_kept (oH5083 _ (G_ne ga0 gq5082 (by decide)))).symm
                have m5086 := (m5058).trans (fI_kept (oH5083 _ (G_ne ga0 gq5082 (by decide)))).symm
                have m5087 := (m5059).trans (fI_kept (oH5083 _ (G_ne ga1 gq5082 (by decide)))).symm
                have m5088 := (m5060).trans (fI_kept (oH5083 _ (G_ne ga1 gq5082 (by decide)))).symm
                have m5089 := (m5061).trans (fI_kept (oH5083 _ (G_ne ga1 gq5082 (by decide)))).symm
                have m5090 := (m5062).trans (fI_kept (oH5083 _ (G_ne ga1 gq5082 (by decide)))).symm
                have m5091 := (m5063).trans (fI_kept (oH5083 _ (G_ne ga1 gq5082 (by decide)))).symm
                have m5092 := (m5064).trans (fI_kept (oH5083 _ (G_ne ga1 gq5082 (by decide)))).symm
                have m5093 := (m5065).trans (fI_kept (oH5083 _ (G_ne ga0 gq5082 (by decide)))).symm
                have m5094 := (m5066).trans (fI_kept (oH5083 _ (G_ne ga0 gq5082 (by decide)))).symm
                have m5095 := (m5067).trans (fI_kept (oH5083 _ (G_ne ga1 gq5082 (by decide)))).symm
                have m5096 := (m5068).trans (fI_kept (oH5083 _ (G_ne ga0 gq5082 (by decide)))).symm
                have m5097 := (m5069).trans (fI_kept (oH5083 _ (G_ne ga1 gq5082 (by decide)))).symm
                have m5098 := (m5070).trans (fI_kept (oH5083 _ (G_ne ga0 gq5082 (by decide)))).symm
                have m5099 := (m5071).trans (fR_kept (oH5083 _ (G_ne ga1 gq5082 (by decide)))).symm
                have m5100 := (m5072).trans (fR_kept (oH5083 _ (G_ne ga0 gq5082 (by decide)))).symm
                have m5101 := (m5073).trans (fR_kept (oH5083 _ (G_ne ga1 gq5082 (by decide)))).symm
                have m5102 := (m5074).trans (fR_kept (oH5083 _ (G_ne ga0 gq5082 (by decide)))).symm
                have m5103 := (m5075).trans (fI_kept (oH5083 _ (G_ne ga0 gq5082 (by decide)))).symm
                have m5104 := (m5076).trans (fR_kept (oH5083 _ (G_ne ga1 gq5082 (by decide)))).symm
                have m5105 := (m5077).trans (fR_kept (oH5083 _ (G_ne ga0 gq5082 (by decide)))).symm
                have m5106 := (eq5081).trans (fR_kept (oH5083 _ (G_ne ga1 gq5082 (by decide)))).symm
                have m5107 := (eq5082).trans (fR_kept (oH5083 _ (G_ne ga0 gq5082 (by decide)))).symm
                have f5108 : RFW K H5083 s.heap a0 := RFW.tr (RFW.cellK hTH5055 ga0 (fun q t hq ht => oH5083 _ (G_ne hq gq5082 (by first | (intro z; simp only [List.mem_cons, List.not_mem_nil, or_false] at z <;> omega) | omega)))) f5078
                have f5109 : BXT K H5083 s.heap a0 a1 u1.toInt := BXT.keptK hT ga0 hTH5055 (fun q t hq ht => oH5083 _ (G_ne hq gq5082 (by first | (intro z; simp only [List.mem_cons, List.not_mem_nil, or_false] at z <;> omega) | omega))) f5079
                have f5110 : TXK K H5083 s.heap a0 a1 (12 + x4891.toNatClampNeg) := TXK.keptK hT ga0 hTH5055 (fun q t hq ht => oH5083 _ (G_ne hq gq5082 (by first | (intro z; simp only [List.mem_cons, List.not_mem_nil, or_false] at z <;> omega) | omega))) f5080
                refine lv_aload_n hx hb dX8_copyFrom_195 rfl (lv_at hl4890 0 rfl) ?_
                refine lv_aload_n hx hb dX8_copyFrom_196 rfl (lv_at hl4890 1 rfl) ?_
                refine x_gi C hTH5083 (ci := 8) (k := 13) rfl inX8 (by decide) wF_X8_79 ga1 rg_0 rfl dX8_copyFrom_197 (fun x5111 ex5111 bx5111 => ?_)
                have ux5111 : u13 = x5111 := (m5091).trans ex5111.symm
                subst ux5111
                refine x_put C hTH5083 hSH5083 (ci := 8) (k := 13) (v := .int u13) (ty0 := tyX8) rfl inX8 tyX8_ok nmX8 (by decide) rfl wF_X8_79 ga0 rg_34 rfl rfl (okI (by omega) (by omega)) rfl rfl (AE_in ga0 (by decide)) dX8_copyFrom_200 (fun H5112 locsH5112 hTH5112 hSH5112 wH5112 => ?_)
                clear f5024 f5025 f5026 m5004 m5005 m5006 m5007 m5008 m5009 m5010 m5011 m5012 m5013 m5014 m5015 m5016 m5017 m5018 m5019 m5020 m5021 m5022 m5023
                have f5113 : RFW K H5112 s.heap a0 := RFW.tr (RFW.wrK hTH5083 ga0 wH5112 hap8 (by decide)) f5108
                have f5114 : BXT K H5112 s.heap a0 a1 u1.toInt := BXT.keptK hT ga0 hTH5083 (fun q t hq ht => wH5112.off (G_ne hq ga0 (by first | (intro z; simp only [List.mem_cons, List.not_mem_nil, or_false] at z <;> omega) | omega))) f5109
                have f5115 : TXK K H5112 s.heap a0 a1 (12 + x4891.toNatClampNeg) := TXK.keptK hT ga0 hTH5083 (fun q t hq ht => wH5112.off (G_ne hq ga0 (by first | (intro z; simp only [List.mem_cons, List.not_mem_nil, or_false] at z <;> omega) | omega))) f5110
                have m5116 := m5084.trans (Wr.neI wH5112 (Or.inr (x_apart hKT hts inX8 tyX8 tyX8_ok nmX8 rfl 1 13 (by decide) (by decide) (by decide)))).symm
                have m5118 := m5086.trans (Wr.neI wH5112 (Or.inr (x_apart hKT hts inX8 tyX8 tyX8_ok nmX8 rfl 16 13 (by decide) (by decide) (by decide)))).symm
                have m5119 := m5087.trans (Wr.neI wH5112 (Or.inl (G_ne ga1 ga0 (by decide)))).symm
                have m5120 := m5088.trans (Wr.neI wH5112 (Or.inl (G_ne ga1 ga0 (by decide)))).symm
                have m5121 := m5089.trans (Wr.neI wH5112 (Or.inl (G_ne ga1 ga0 (by decide)))).symm
                have m5122 := m5090.trans (Wr.neI wH5112 (Or.inl (G_ne ga1 ga0 (by decide)))).symm
                have m5123 := m5091.trans (Wr.neI wH5112 (Or.inl (G_ne ga1 ga0 (by decide)))).symm
                have m5124 := m5092.trans (Wr.neI wH5112 (Or.inl (G_ne ga1 ga0 (by decide)))).symm
                have m5125 := m5093.trans (Wr.neI wH5112 (Or.inr (x_apart hKT hts inX8 tyX8 tyX8_ok nmX8 rfl 4 13 (by decide) (by decide) (by decide)))).symm
                have m5126 := m5094.trans (Wr.neI wH5112 (Or.inr (x_apart hKT hts inX8 tyX8 tyX8_ok nmX8 rfl 5 13 (by decide) (by decide) (by decide)))).symm
                have m5127 := m5095.trans (Wr.neI wH5112 (Or.inl (G_ne ga1 ga0 (by decide)))).symm
                have m5128 := m5096.trans (Wr.neI wH5112 (Or.inr (x_apart hKT hts inX8 tyX8 tyX8_ok nmX8 rfl 6 13 (by decide) (by decide) (by decide)))).symm
                have m5129 := m5097.trans (Wr.neI wH5112 (Or.inl (G_ne ga1 ga0 (by decide)))).symm
                have m5130 := m5098.trans (Wr.neI wH5112 (Or.inr (x_apart hKT hts inX8 tyX8 tyX8_ok nmX8 rfl 7 13 (by decide) (by decide) (by decide)))).symm
                have m5131 := m5099.trans (Wr.neR wH5112 (Or.inl (G_ne ga1 ga0 (by decide)))).symm
                have m5132 := m5100.trans (Wr.neR wH5112 (Or.inr (x_apart hKT hts inX8 tyX8 tyX8_ok nmX8 rfl 8 13 (by decide) (by decide) (by decide)))).symm
                have m5133 := m5101.trans (Wr.neR wH5112 (Or.inl (G_ne ga1 ga0 (by decide)))).symm
                have m5134 := m5102.trans (Wr.neR wH5112 (Or.inr (x_apart hKT hts inX8 tyX8 tyX8_ok nmX8 rfl 9 13 (by decide) (by decide) (by decide)))).symm
                have m5135 := m5103.trans (Wr.neI wH5112 (Or.inr (x_apart hKT hts inX8 tyX8 tyX8_ok nmX8 rfl 10 13 (by decide) (by decide) (by decide)))).symm
                have m5136 := m5104.trans (Wr.neR wH5112 (Or.inl (G_ne ga1 ga0 (by decide)))).symm
                have m5137 := m5105.trans (Wr.neR wH5112 (Or.inr (x_apart hKT hts inX8 tyX8 tyX8_ok nmX8 rfl 11 13 (by decide) (by decide) (by decide)))).symm
                have m5138 := m5106.trans (Wr.neR wH5112 (Or.inl (G_ne ga1 ga0 (by decide)))).symm
                have m5139 := m5107.trans (Wr.neR wH5112 (Or.inr (x_apart hKT hts inX8 tyX8 tyX8_ok nmX8 rfl 12 13 (by decide) (by decide) (by decide)))).symm
                have m5140 := Wr.I wH5112
                have m5140 := m5140.symm
                refine lv_aload_n hx hb dX8_copyFrom_203 rfl (lv_at hl4890 1 rfl) ?_
                refine x_gr C hTH5112 (ci := 8) (k := 14) rfl inX8 (by decide) wF_X8_46 ga1 rg_0 rfl dX8_copyFrom_204 (fun q5141 eq5141 gq5141 => ?_)
                replace eq5141 : @Eq Ad q5141 (fR H5112 a1 (K.1.2 8 14)) := eq5141
                refine lv_iconst (v := 0) hx hb dX8_copyFrom_207 (by decide) ?_
                refine lv_aload_n hx hb dX8_copyFrom_208 rfl (lv_at hl4890 0 rfl) ?_
                refine x_gr C hTH5112 (ci := 8) (k := 14) rfl inX8 (by decide) wF_X8_46 ga0 rg_34 rfl dX8_copyFrom_209 (fun q5142 eq5142 gq5142 => ?_)
                replace eq5142 : @Eq Ad q5142 (fR H5112 a0 (K.1.2 8 14)) := eq5142
                refine lv_iconst (v := 0) hx hb dX8_copyFrom_212 (by decide) ?_
                refine lv_bipush (v := 8) hx hb dX8_copyFrom_213 (by decide) ?_
                refine x_copy C hTH5112 hSH5112 wM_X8_70 wNT_arraycopy wST_arraycopy wIN_J10 gq5141 gq5142 rg_32 rg_66 (by decide) (by omega) (by omega) (by omega) (by show _ ≤ ((8 : Nat) : Int); omega) (by show _ ≤ ((8 : Nat) : Int); omega) (AE_in gq5142 (by decide)) hl4890.1 (by decide) dX8_copyFrom_215 (fun H5143 locsH5143 hTH5143 hSH5143 zH5143 oH5143 vH5143 wH5143 => ?_)
                have m5144 := (m5116).trans (fI_kept (oH5143 _ (G_ne ga0 gq5142 (by decide)))).symm
                have m5145 := (m5118).trans (fI_kept (oH5143 _ (G_ne ga0 gq5142 (by decide)))).symm
                have m5146 := (m5119).trans (fI_kept (oH5143 _ (G_ne ga1 gq5142 (by decide)))).symm
                have m5147 := (m5120).trans (fI_kept (oH5143 _ (G_ne ga1 gq5142 (by decide)))).symm
                have m5148 := (m5121).trans (fI_kept (oH5143 _ (G_ne ga1 gq5142 (by decide)))).symm
                have m5149 := (m5122).trans (fI_kept (oH5143 _ (G_ne ga1 gq5142 (by decide)))).symm
                have m5150 := (m5123).trans (fI_kept (oH5143 _ (G_ne ga1 gq5142 (by decide)))).symm
                have m5151 := (m5124).trans (fI_kept (oH5143 _ (G_ne ga1 gq5142 (by decide)))).symm
                have m5152 := (m5125).trans (fI_kept (oH5143 _ (G_ne ga0 gq5142 (by decide)))).symm
                have m5153 := (m5126).trans (fI_kept (oH5143 _ (G_ne ga0 gq5142 (by decide)))).symm
                have m5154 := (m5127).trans (fI_kept (oH5143 _ (G_ne ga1 gq5142 (by decide)))).symm
                have m5155 := (m5128).trans (fI_kept (oH5143 _ (G_ne ga0 gq5142 (by decide)))).symm
                have m5156 := (m5129).trans (fI_kept (oH5143 _ (G_ne ga1 gq5142 (by decide)))).symm
                have m5157 := (m5130).trans (fI_kept (oH5143 _ (G_ne ga0 gq5142 (by decide)))).symm
                have m5158 := (m5131).trans (fR_kept (oH5143 _ (G_ne ga1 gq5142 (by decide)))).symm
                have m5159 := (m5132).trans (fR_kept (oH5143 _ (G_ne ga0 gq5142 (by decide)))).symm
                have m5160 := (m5133).trans (fR_kept (oH5143 _ (G_ne ga1 gq5142 (by decide)))).symm
                have m5161 := (m5134).trans (fR_kept (oH5143 _ (G_ne ga0 gq5142 (by decide)))).symm
                have m5162 := (m5135).trans (fI_kept (oH5143 _ (G_ne ga0 gq5142 (by decide)))).symm
                have m5163 := (m5136).trans (fR_kept (oH5143 _ (G_ne ga1 gq5142 (by decide)))).symm
                have m5164 := (m5137).trans (fR_kept (oH5143 _ (G_ne ga0 gq5142 (by decide)))).symm
                have m5165 := (m5138).trans (fR_kept (oH5143 _ (G_ne ga1 gq5142 (by decide)))).symm
                have m5166 := (m5139).trans (fR_kept (oH5143 _ (G_ne ga0 gq5142 (by decide)))).symm
                have m5167 := (m5140).trans (fI_kept (oH5143 _ (G_ne ga0 gq5142 (by decide)))).symm
                have m5168 := (eq5141).trans (fR_kept (oH5143 _ (G_ne ga1 gq5142 (by decide)))).symm
                have m5169 := (eq5142).trans (fR_kept (oH5143 _ (G_ne ga0 gq5142 (by decide)))).symm
                have f5170 : RFW K H5143 s.heap a0 := RFW.tr (RFW.cellK hTH5112 ga0 (fun q t hq ht => oH5143 _ (G_ne hq gq5142 (by first | (intro z; simp only [List.mem_cons, List.not_mem_nil, or_false] at z <;> omega) | omega)))) f5113
                have f5171 : BXT K H5143 s.heap a0 a1 u1.toInt := BXT.keptK hT ga0 hTH5112 (fun q t hq ht => oH5143 _ (G_ne hq gq5142 (by first | (intro z; simp only [List.mem_cons, List.not_mem_nil, or_false] at z <;> omega) | omega))) f5114
                have f5172 : TXK K H5143 s.heap a0 a1 (12 + x4891.toNatClampNeg) := TXK.keptK hT ga0 hTH5112 (fun q t hq ht => oH5143 _ (G_ne hq gq5142 (by first | (intro z; simp only [List.mem_cons, List.not_mem_nil, or_false] at z <;> omega) | omega))) f5115
                refine lv_aload_n hx hb dX8_copyFrom_218 rfl (lv_at hl4890 1 rfl) ?_
                refine x_gr C hTH5143 (ci := 8) (k := 15) rfl inX8 (by decide) wF_X8_49 ga1 rg_0 rfl dX8_copyFrom_219 (fun q5173 eq5173 gq5173 => ?_)
                replace eq5173 : @Eq Ad q5173 (fR H5143 a1 (K.1.2 8 15)) := eq5173
                refine lv_iconst (v := 0) hx hb dX8_copyFrom_222 (by decide) ?_
                refine lv_aload_n hx hb dX8_copyFrom_223 rfl (lv_at hl4890 0 rfl) ?_
                refine x_gr C hTH5143 (ci := 8) (k := 15) rfl inX8 (by decide) wF_X8_49 ga0 rg_34 rfl dX8_copyFrom_224 (fun q5174 eq5174 gq5174 => ?_)
                replace eq5174 : @Eq Ad q5174 (fR H5143 a0 (K.1.2 8 15)) := eq5174
                refine lv_iconst (v := 0) hx hb dX8_copyFrom_227 (by decide) ?_
                refine lv_bipush (v := 8) hx hb dX8_copyFrom_228 (by decide) ?_
                refine x_copy C hTH5143 hSH5143 wM_X8_70 wNT_arraycopy wST_arraycopy wIN_J10 gq5173 gq5174 rg_33 rg_67 (by decide) (by omega) (by omega) (by omega) (by show _ ≤ ((8 : Nat) : Int); omega) (by show _ ≤ ((8 : Nat) : Int); omega) (AE_in gq5174 (by decide)) hl4890.1 (by decide) dX8_copyFrom_230 (fun H5175 locsH5175 hTH5175 hSH5175 zH5175 oH5175 vH5175 wH5175 => ?_)
                have m5176 := (m5144).trans (fI_kept (oH5175 _ (G_ne ga0 gq5174 (by decide)))).symm
                have m5177 := (m5145).trans (fI_kept (oH5175 _ (G_ne ga0 gq5174 (by decide)))).symm
                have m5178 := (m5146).trans (fI_kept (oH5175 _ (G_ne ga1 gq5174 (by decide)))).symm
                have m5179 := (m5147).trans (fI_kept (oH5175 _ (G_ne ga1 gq5174 (by decide)))).symm
                have m5180 := (m5148).trans (fI_kept (oH5175 _ (G_ne ga1 gq5174 (by decide)))).symm
                have m5181 := (m5149).trans (fI_kept (oH5175 _ (G_ne ga1 gq5174 (by decide)))).symm
                have m5182 := (m5150).trans (fI_kept (oH5175 _ (G_ne ga1 gq5174 (by decide)))).symm
                have m5183 := (m5151).trans (fI_kept (oH5175 _ (G_ne ga1 gq5174 (by decide)))).symm
                have m5184 := (m5152).trans (fI_kept (oH5175 _ (G_ne ga0 gq5174 (by decide)))).symm
                have m5185 := (m5153).trans (fI_kept (oH5175 _ (G_ne ga0 gq5174 (by decide)))).symm
                have m5186 := (m5154).trans (fI_kept (oH5175 _ (G_ne ga1 gq5174 (by decide)))).symm
                have m5187 := (m5155).trans (fI_kept (oH5175 _ (G_ne ga0 gq5174 (by decide)))).symm
                have m5188 := (m5156).trans (fI_kept (oH5175 _ (G_ne ga1 gq5174 (by decide)))).symm
                have m5189 := (m5157).trans (fI_kept (oH5175 _ (G_ne ga0 gq5174 (by decide)))).symm
                have m5190 := (m5158).trans (fR_kept (oH5175 _ (G_ne ga1 gq5174 (by decide)))).symm
                have m5191 := (m5159).trans (fR_kept (oH5175 _ (G_ne ga0 gq5174 (by decide)))).symm
                have m5192 := (m5160).trans (fR_kept (oH5175 _ (G_ne ga1 gq5174 (by decide)))).symm
                have m5193 := (m5161).trans (fR_kept (oH5175 _ (G_ne ga0 gq5174 (by decide)))).symm
                have m5194 := (m5162).trans (fI_kept (oH5175 _ (G_ne ga0 gq5174 (by decide)))).symm
                have m5195 := (m5163).trans (fR_kept (oH5175 _ (G_ne ga1 gq5174 (by decide)))).symm
                have m5196 := (m5164).trans (fR_kept (oH5175 _ (G_ne ga0 gq5174 (by decide)))).symm
                have m5197 := (m5165).trans (fR_kept (oH5175 _ (G_ne ga1 gq5174 (by decide)))).symm
                have m5198 := (m5166).trans (fR_kept (oH5175 _ (G_ne ga0 gq5174 (by decide)))).symm
                have m5199 := (m5167).trans (fI_kept (oH5175 _ (G_ne ga0 gq5174 (by decide)))).symm
                have m5200 := (m5168).trans (fR_kept (oH5175 _ (G_ne ga1 gq5174 (by decide)))).symm
                have m5201 := (m5169).trans (fR_kept (oH5175 _ (G_ne ga0 gq5174 (by decide)))).symm
                have m5202 := (eq5173).trans (fR_kept (oH5175 _ (G_ne ga1 gq5174 (by decide)))).symm
                have m5203 := (eq5174).trans (fR_kept (oH5175 _ (G_ne ga0 gq5174 (by decide)))).symm
                have f5204 : RFW K H5175 s.heap a0 := RFW.tr (RFW.cellK hTH5143 ga0 (fun q t hq ht => oH5175 _ (G_ne hq gq5174 (by first | (intro z; simp only [List.mem_cons, List.not_mem_nil, or_false] at z <;> omega) | omega)))) f5170
                have f5205 : BXT K H5175 s.heap a0 a1 u1.toInt := BXT.keptK hT ga0 hTH5143 (fun q t hq ht => oH5175 _ (G_ne hq gq5174 (by first | (intro z; simp only [List.mem_cons, List.not_mem_nil, or_false] at z <;> omega) | omega))) f5171
                have f5206 : TXK K H5175 s.heap a0 a1 (12 + x4891.toNatClampNeg) := TXK.keptK hT ga0 hTH5143 (fun q t hq ht => oH5175 _ (G_ne hq gq5174 (by first | (intro z; simp only [List.mem_cons, List.not_mem_nil, or_false] at z <;> omega) | omega))) f5172
                refine lv_aload_n hx hb dX8_copyFrom_233 rfl (lv_at hl4890 0 rfl) ?_
                refine lv_aload_n hx hb dX8_copyFrom_234 rfl (lv_at hl4890 1 rfl) ?_
                refine x_gi C hTH5175 (ci := 8) (k := 16) rfl inX8 (by decide) wF_X8_82 ga1 rg_0 rfl dX8_copyFrom_235 (fun x5207 ex5207 bx5207 => ?_)
                have ux5207 : u16 = x5207 := (m5183).trans ex5207.symm
                subst ux5207
                refine x_put C hTH5175 hSH5175 (ci := 8) (k := 16) (v := .int u16) (ty0 := tyX8) rfl inX8 tyX8_ok nmX8 (by decide) rfl wF_X8_82 ga0 rg_34 rfl rfl (okI (by omega) (by omega)) rfl rfl (AE_in ga0 (by decide)) dX8_copyFrom_238 (fun H5208 locsH5208 hTH5208 hSH5208 wH5208 => ?_)
                clear f5108 f5109 f5110 m5084 m5085 m5086 m5087 m5088 m5089 m5090 m5091 m5092 m5093 m5094 m5095 m5096 m5097 m5098 m5099 m5100 m5101 m5102 m5103 m5104 m5105 m5106 m5107
                have f5209 : RFW K H5208 s.heap a0 := RFW.tr (RFW.wrK hTH5175 ga0 wH5208 hap8 (by decide)) f5204
                have f5210 : BXT K H5208 s.heap a0 a1 u1.toInt := BXT.keptK hT ga0 hTH5175 (fun q t hq ht => wH5208.off (G_ne hq ga0 (by first | (intro z; simp only [List.mem_cons, List.not_mem_nil, or_false] at z <;> omega) | omega))) f5205
                have f5211 : TXK K H5208 s.heap a0 a1 (12 + x4891.toNatClampNeg) := TXK.keptK hT ga0 hTH5175 (fun q t hq ht => wH5208.off (G_ne hq ga0 (by first | (intro z; simp only [List.mem_cons, List.not_mem_nil, or_false] at z <;> omega) | omega))) f5206
                have m5212 := m5176.trans (Wr.neI wH5208 (Or.inr (x_apart hKT hts inX8 tyX8 tyX8_ok nmX8 rfl 1 16 (by decide) (by decide) (by decide)))).symm
                have m5214 := m5178.trans (Wr.neI wH5208 (Or.inl (G_ne ga1 ga0 (by decide)))).symm
                have m5215 := m5179.trans (Wr.neI wH5208 (Or.inl (G_ne ga1 ga0 (by decide)))).symm
                have m5216 := m5180.trans (Wr.neI wH5208 (Or.inl (G_ne ga1 ga0 (by decide)))).symm
                have m5217 := m5181.trans (Wr.neI wH5208 (Or.inl (G_ne ga1 ga0 (by decide)))).symm
                have m5218 := m5182.trans (Wr.neI wH5208 (Or.inl (G_ne ga1 ga0 (by decide)))).symm
                have m5219 := m5183.trans (Wr.neI wH5208 (Or.inl (G_ne ga1 ga0 (by decide)))).symm
                have m5220 := m5184.trans (Wr.neI wH5208 (Or.inr (x_apart hKT hts inX8 tyX8 tyX8_ok nmX8 rfl 4 16 (by decide) (by decide) (by decide)))).symm
                have m5221 := m5185.trans (Wr.neI wH5208 (Or.inr (x_apart hKT hts inX8 tyX8 tyX8_ok nmX8 rfl 5 16 (by decide) (by decide) (by decide)))).symm
                have m5222 := m5186.trans (Wr.neI wH5208 (Or.inl (G_ne ga1 ga0 (by decide)))).symm
                have m5223 := m5187.trans (Wr.neI wH5208 (Or.inr (x_apart hKT hts inX8 tyX8 tyX8_ok nmX8 rfl 6 16 (by decide) (by decide) (by decide)))).symm
                have m5224 := m5188.trans (Wr.neI wH5208 (Or.inl (G_ne ga1 ga0 (by decide)))).symm
                have m5225 := m5189.trans (Wr.neI wH5208 (Or.inr (x_apart hKT hts inX8 tyX8 tyX8_ok nmX8 rfl 7 16 (by decide) (by decide) (by decide)))).symm
                have m5226 := m5190.trans (Wr.neR wH5208 (Or.inl (G_ne ga1 ga0 (by decide)))).symm
                have m5227 := m5191.trans (Wr.neR wH5208 (Or.inr (x_apart hKT hts inX8 tyX8 tyX8_ok nmX8 rfl 8 16 (by decide) (by decide) (by decide)))).symm
                have m5228 := m5192.trans (Wr.neR wH5208 (Or.inl (G_ne ga1 ga0 (by decide)))).symm
                have m5229 := m5193.trans (Wr.neR wH5208 (Or.inr (x_apart hKT hts inX8 tyX8 tyX8_ok nmX8 rfl 9 16 (by decide) (by decide) (by decide)))).symm
                have m5230 := m5194.trans (Wr.neI wH5208 (Or.inr (x_apart hKT hts inX8 tyX8 tyX8_ok nmX8 rfl 10 16 (by decide) (by decide) (by decide)))).symm
                have m5231 := m5195.trans (Wr.neR wH5208 (Or.inl (G_ne ga1 ga0 (by decide)))).symm
                have m5232 := m5196.trans (Wr.neR wH5208 (Or.inr (x_apart hKT hts inX8 tyX8 tyX8_ok nmX8 rfl 11 16 (by decide) (by decide) (by decide)))).symm
                have m5233 := m5197.trans (Wr.neR wH5208 (Or.inl (G_ne ga1 ga0 (by decide)))).symm
                have m5234 := m5198.trans (Wr.neR wH5208 (Or.inr (x_apart hKT hts inX8 tyX8 tyX8_ok nmX8 rfl 12 16 (by decide) (by decide) (by decide)))).symm
                have m5235 := m5199.trans (Wr.neI wH5208 (Or.inr (x_apart hKT hts inX8 tyX8 tyX8_ok nmX8 rfl 13 16 (by decide) (by decide) (by decide)))).symm
                have m5236 := m5200.trans (Wr.neR wH5208 (Or.inl (G_ne ga1 ga0 (by decide)))).symm
                have m5237 := m5201.trans (Wr.neR wH5208 (Or.inr (x_apart hKT hts inX8 tyX8 tyX8_ok nmX8 rfl 14 16 (by decide) (by decide) (by decide)))).symm
                have m5238 := m5202.trans (Wr.neR wH5208 (Or.inl (G_ne ga1 ga0 (by decide)))).symm
                have m5239 := m5203.trans (Wr.neR wH5208 (Or.inr (x_apart hKT hts inX8 tyX8 tyX8_ok nmX8 rfl 15 16 (by decide) (by decide) (by decide)))).symm
                have m5240 := Wr.I wH5208
                have m5240 := m5240.symm
                exact x_vret C hQ dX8_copyFrom_241 hSH5208 (by decide) (by decide) (⟨x4892, u4, u5, u10, u13, u16, rfl, m5212, m5220, m5221, m5230, m5235, m5240, by omega, f5209, (IMX.of (BXT.cast f5210 (by omega)) (TXK.cast f5211 (by omega)) f5209 hT ga1 (fun q t hq ht => x_lt hT hSH5208.2.1 hq (by first | (intro z; simp only [List.mem_cons, List.not_mem_nil, or_false] at z <;> omega) | omega))), hTH5208⟩)
              · have k4900 := i_nle c4899
                refine lv_aload_n hx hb dX8_copyFrom_74 rfl (lv_at hl4890 0 rfl) ?_
                refine x_gr C hTH4888 (ci := 8) (k := 3) rfl inX8 (by decide) wF_X8_23 ga0 rg_34 rfl dX8_copyFrom_75 (fun q5241 eq5241 gq5241 => ?_)
                replace eq5241 : @Eq Ad q5241 (fR H4888 a0 (K.1.2 8 3)) := eq5241
                refine lv_iload_n hx hb dX8_copyFrom_78 rfl (lv_at hl4890 2 rfl) ?_
                refine x_ar C hTH4888 rfl rfl gq5241 rg_61 ⟨bx4891.1, by show _ < ((4 : Nat) : Int); omega⟩ dX8_copyFrom_79 (fun q5242 eq5242 gq5242 => ?_)
                replace eq5242 : @Eq Ad q5242 (fR H4888 q5241 (x4891 : Int32).toNatClampNeg) := eq5242
                refine lv_aload_n hx hb dX8_copyFrom_80 rfl (lv_at hl4890 1 rfl) ?_
                refine x_gr C hTH4888 (ci := 8) (k := 3) rfl inX8 (by decide) wF_X8_23 ga1 rg_0 rfl dX8_copyFrom_81 (fun q5243 eq5243 gq5243 => ?_)
                replace eq5243 : @Eq Ad q5243 (fR H4888 a1 (K.1.2 8 3)) := eq5243
                refine lv_iload_n hx hb dX8_copyFrom_84 rfl (lv_at hl4890 2 rfl) ?_
                refine x_ar C hTH4888 rfl rfl gq5243 rg_27 ⟨bx4891.1, by show _ < ((4 : Nat) : Int); omega⟩ dX8_copyFrom_85 (fun q5244 eq5244 gq5244 => ?_)
                replace eq5244 : @Eq Ad q5244 (fR H4888 q5243 (x4891 : Int32).toNatClampNeg) := eq5244
                obtain ⟨q5245, eq5245⟩ : ∃ z : Nat, @Eq Ad z (fR H4888 q5242 (K.1.2 7 1)) := ⟨_, rfl⟩
                have gq5245 := ty_fr (q := q5245) (k := 1) (u := 51) eq5245 hTH4888 gq5242 rg_50 rfl
                obtain ⟨q5246, eq5246⟩ : ∃ z : Nat, @Eq Ad z (fR H4888 q5242 (K.1.2 7 2)) := ⟨_, rfl⟩
                have gq5246 := ty_fr (q := q5246) (k := 2) (u := 52) eq5246 hTH4888 gq5242 rg_50 rfl
                obtain ⟨q5247, eq5247⟩ : ∃ z : Nat, @Eq Ad z (fR H4888 q5242 (K.1.2 7 3)) := ⟨_, rfl⟩
                have gq5247 := ty_fr (q := q5247) (k := 3) (u := 53) eq5247 hTH4888 gq5242 rg_50 rfl
                obtain ⟨q5248, eq5248⟩ : ∃ z : Nat, @Eq Ad z (fR H4888 q5242 (K.1.2 7 4)) := ⟨_, rfl⟩
                have gq5248 := ty_fr (q := q5248) (k := 4) (u := 54) eq5248 hTH4888 gq5242 rg_50 rfl
                obtain ⟨q5249, eq5249⟩ : ∃ z : Nat, @Eq Ad z (fR H4888 q5242 (K.1.2 7 5)) := ⟨_, rfl⟩
                have gq5249 := ty_fr (q := q5249) (k := 5) (u := 55) eq5249 hTH4888 gq5242 rg_50 rfl
                obtain ⟨q5250, eq5250⟩ : ∃ z : Nat, @Eq Ad z (fR H4888 q5242 (K.1.2 7 6)) := ⟨_, rfl⟩
                have gq5250 := ty_fr (q := q5250) (k := 6) (u := 56) eq5250 hTH4888 gq5242 rg_50 rfl
                obtain ⟨q5251, eq5251⟩ : ∃ z : Nat, @Eq Ad z (fR H4888 q5242 (K.1.2 7 7)) := ⟨_, rfl⟩
                have gq5251 := ty_fr (q := q5251) (k := 7) (u := 57) eq5251 hTH4888 gq5242 rg_50 rfl
                obtain ⟨q5252, eq5252⟩ : ∃ z : Nat, @Eq Ad z (fR H4888 q5242 (K.1.2 7 8)) := ⟨_, rfl⟩
                have gq5252 := ty_fr (q := q5252) (k := 8) (u := 58) eq5252 hTH4888 gq5242 rg_50 rfl
                obtain ⟨q5253, eq5253⟩ : ∃ z : Nat, @Eq Ad z (fR H4888 q5244 (K.1.2 7 1)) := ⟨_, rfl⟩
                have gq5253 := ty_fr (q := q5253) (k := 1) (u := 17) eq5253 hTH4888 gq5244 rg_16 rfl
                obtain ⟨q5254, eq5254⟩ : ∃ z : Nat, @Eq Ad z (fR H4888 q5244 (K.1.2 7 2)) := ⟨_, rfl⟩
                have gq5254 := ty_fr (q := q5254) (k := 2) (u := 18) eq5254 hTH4888 gq5244 rg_16 rfl
                obtain ⟨q5255, eq5255⟩ : ∃ z : Nat, @Eq Ad z (fR H4888 q5244 (K.1.2 7 3)) := ⟨_, rfl⟩
                have gq5255 := ty_fr (q := q5255) (k := 3) (u := 19) eq5255 hTH4888 gq5244 rg_16 rfl
                obtain ⟨q5256, eq5256⟩ : ∃ z : Nat, @Eq Ad z (fR H4888 q5244 (K.1.2 7 4)) := ⟨_, rfl⟩
                have gq5256 := ty_fr (q := q5256) (k := 4) (u := 20) eq5256 hTH4888 gq5244 rg_16 rfl
                obtain ⟨q5257, eq5257⟩ : ∃ z : Nat, @Eq Ad z (fR H4888 q5244 (K.1.2 7 5)) := ⟨_, rfl⟩
                have gq5257 := ty_fr (q := q5257) (k := 5) (u := 21) eq5257 hTH4888 gq5244 rg_16 rfl
                obtain ⟨q5258, eq5258⟩ : ∃ z : Nat, @Eq Ad z (fR H4888 q5244 (K.1.2 7 6)) := ⟨_, rfl⟩
                have gq5258 := ty_fr (q := q5258) (k := 6) (u := 22) eq5258 hTH4888 gq5244 rg_16 rfl
                obtain ⟨q5259, eq5259⟩ : ∃ z : Nat, @Eq Ad z (fR H4888 q5244 (K.1.2 7 7)) := ⟨_, rfl⟩
                have gq5259 := ty_fr (q := q5259) (k := 7) (u := 23) eq5259 hTH4888 gq5244 rg_16 rfl
                obtain ⟨q5260, eq5260⟩ : ∃ z : Nat, @Eq Ad z (fR H4888 q5244 (K.1.2 7 8)) := ⟨_, rfl⟩
                have gq5260 := ty_fr (q := q5260) (k := 8) (u := 24) eq5260 hTH4888 gq5244 rg_16 rfl
                obtain ⟨x5261, ex5261⟩ : ∃ z : Int32, z = fI H4888 q5242 (K.1.2 7 0) := ⟨_, rfl⟩
                have bx5261 := ty_fi (x := x5261) (k := 0) ex5261 hTH4888 gq5242 rg_50 rfl
                obtain ⟨x5262, ex5262⟩ : ∃ z : Int32, z = fI H4888 q5242 (K.1.2 7 9) := ⟨_, rfl⟩
                have bx5262 := ty_fi (x := x5262) (k := 9) ex5262 hTH4888 gq5242 rg_50 rfl
                obtain ⟨x5263, ex5263⟩ : ∃ z : Int32, z = fI H4888 q5244 (K.1.2 7 0) := ⟨_, rfl⟩
                have bx5263 := ty_fi (x := x5263) (k := 0) ex5263 hTH4888 gq5244 rg_16 rfl
                obtain ⟨x5264, ex5264⟩ : ∃ z : Int32, z = fI H4888 q5244 (K.1.2 7 9) := ⟨_, rfl⟩
                have bx5264 := ty_fi (x := x5264) (k := 9) ex5264 hTH4888 gq5244 rg_16 rfl
                refine x_V (As := [.ref q5244]) (rest := []) C (a_X7_copyFrom_gk l K G H4888 (x5261) (x5262) (x5263) (x5264) hTH4888 gq5242 gq5244 gq5245 eq5245 gq5246 eq5246 gq5247 eq5247 gq5248 eq5248 gq5249 eq5249 gq5250 eq5250 gq5251 eq5251 gq5252 eq5252 gq5253 eq5253 gq5254 eq5254 gq5255 eq5255 gq5256 eq5256 gq5257 eq5257 gq5258 eq5258 gq5259 eq5259 gq5260 eq5260 ex5261 ex5262 ex5263 ex5264) yo_X7_copyFrom wM_X8_64 ⟨⟨by decide, by decide⟩, by decide, by decide⟩ (x_rv C hTH4888 (ci := 7) rfl gq5242 rg_50) rfl hl4890.1 rfl (Nat.le_of_ble_eq_true rfl) dX8_copyFrom_86 hSH4888 (AE_sub (fun _ _ => rfl) (by decide) hSH4888.1) (fun vH5265 H5265 locsH5265 pH5265 zH5265 kH5265 hSH5265 => ?_)
                obtain ⟨x5266, x5267, hvH5265, ex5266, ex5267, hrH5265, m5268, m5269, m5270, m5271, m5272, m5273, m5274, m5275, m5276, m5277, m5278, m5279, m5280, m5281, m5282, m5283, m5284, hTH5265⟩ := pH5265
                subst hvH5265
                have f5285 : BXT K H5265 s.heap a0 a1 u1.toInt := BXT.keptK hT ga0 hTH4888 (fun q t hq ht => x_lt hTH4888 kH5265 hq (by first | (intro z; simp only [List.mem_cons, List.not_mem_nil, or_false] at z <;> omega) | omega)) fy4898_bx
                have m5286 := (ex4892).trans (fI_kept (x_lt hTH4888 kH5265 ga0 (by decide))).symm
                have m5287 := (ex4893).trans (fI_kept (x_lt hTH4888 kH5265 ga0 (by decide))).symm
                have m5288 := (ex4894).trans (fI_kept (x_lt hTH4888 kH5265 ga0 (by decide))).symm
                have m5289 := (ex4895).trans (fI_kept (x_lt hTH4888 kH5265 ga0 (by decide))).symm
                have m5290 := (ex4896).trans (fI_kept (x_lt hTH4888 kH5265 ga0 (by decide))).symm
                have m5291 := (ex4897).trans (fI_kept (x_lt hTH4888 kH5265 ga0 (by decide))).symm
                have m5292 := (cy4898_0).trans (fI_kept (x_lt hTH4888 kH5265 ga1 (by decide))).symm
                have m5293 := (cy4898_1).trans (fI_kept (x_lt hTH4888 kH5265 ga1 (by decide))).symm
                have m5294 := (cy4898_2).trans (fI_kept (x_lt hTH4888 kH5265 ga1 (by decide))).symm
                have m5295 := (cy4898_3).trans (fI_kept (x_lt hTH4888 kH5265 ga1 (by decide))).symm
                have m5296 := (cy4898_4).trans (fI_kept (x_lt hTH4888 kH5265 ga1 (by decide))).symm
                have m5297 := (cy4898_5).trans (fI_kept (x_lt hTH4888 kH5265 ga1 (by decide))).symm
                have m5298 := (eq5241).trans (fR_kept (x_lt hTH4888 kH5265 ga0 (by decide))).symm
                have m5299 := (eq5243).trans (fR_kept (x_lt hTH4888 kH5265 ga1 (by decide))).symm
                have m5300 := (eq5253).trans (fR_kept (x_lt hTH4888 kH5265 gq5244 (by decide))).symm
                have m5301 := (eq5254).trans (fR_kept (x_lt hTH4888 kH5265 gq5244 (by decide))).symm
                have m5302 := (eq5255).trans (fR_kept (x_lt hTH4888 kH5265 gq5244 (by decide))).symm
                have m5303 := (eq5256).trans (fR_kept (x_lt hTH4888 kH5265 gq5244 (by decide))).symm
                have m5304 := (eq5257).trans (fR_kept (x_lt hTH4888 kH5265 gq5244 (by decide))).symm
                have m5305 := (eq5258).trans (fR_kept (x_lt hTH4888 kH5265 gq5244 (by decide))).symm
                have m5306 := (eq5259).trans (fR_kept (x_lt hTH4888 kH5265 gq5244 (by decide))).symm
                have m5307 := (eq5260).trans (fR_kept (x_lt hTH4888 kH5265 gq5244 (by decide))).symm
                have m5308 := (ex5263).trans (fI_kept (x_lt hTH4888 kH5265 gq5244 (by decide))).symm
                have m5309 := (ex5264).trans (fI_kept (x_lt hTH4888 kH5265 gq5244 (by decide))).symm
                have bx5266 := ty_fi (x := x5266) (k := 0) ex5266 hTH5265 gq5242 rg_50 rfl
                have bx5267 := ty_fi (x := x5267) (k := 9) ex5267 hTH5265 gq5242 rg_50 rfl
                have cn_x4891 := i_cl (x := x4891) bx4891.1
                have own_ : OWN K H4888 a0 := hy0.st fy4898_rw
                have hL_ : x4891.toNatClampNeg < 4 := by omega
                have ed_ : ow K s.heap a0 (12 + x4891.toNatClampNeg) = q5242 := by rw [← RFW.wo fy4898_rw (by omega), ow_j, ← eq5241, ← eq5242]
                have es_ : ow K s.heap a1 (12 + x4891.toNatClampNeg) = q5244 := by rw [← RFW.wo (RFW.cell hT ga1 (fun q t hq ht => x_lt hT hSH4888.2.1 hq (by first | (intro z; simp only [List.mem_cons, List.not_mem_nil, or_false] at z <;> omega) | omega))) (by omega), ow_j, ← eq5243, ← eq5244]
                have edp_ : ow K H4888 a0 (12 + x4891.toNatClampNeg) = q5242 := (RFW.wo fy4898_rw (by omega)).trans ed_
                have cpx_ : CPX K H5265 H4888 q5242 q5244 := ⟨by rw [← ex5266, ← ex5263]; exact Int32.toInt_inj.mp hrH5265.1, by rw [← ex5267, ← ex5264]; exact Int32.toInt_inj.mp hrH5265.2, fun k h1 h7 => by have hk7 : k = 1 ∨ k = 2 ∨ k = 3 ∨ k = 4 ∨ k = 5 ∨ k = 6 ∨ k = 7 := (by omega); rcases hk7 with rfl | rfl | rfl | rfl | rfl | rfl | rfl; exact (by rw [← m5268, ← eq5253]; exact m5276); exact (by rw [← m5269, ← eq5254]; exact m5277); exact (by rw [← m5270, ← eq5255]; exact m5278); exact (by rw [← m5271, ← eq5256]; exact m5279); exact (by rw [← m5272, ← eq5257]; exact m5280); exact (by rw [← m5273, ← eq5258]; exact m5281); exact (by rw [← m5274, ← eq5259]; exact m5282), by rw [← ex5264, ← m5275, ← eq5260]; exact m5283⟩
                have tx5310 : TXK K H5265 s.heap a0 a1 ((12 + x4891.toNatClampNeg) + 1) := TXK.go (TXK.cast fy4898_tx (by omega)) (by omega) rfl ed_ es_ (tx_s hT gq5244 (fun q t hq ht => x_lt hT hSH4888.2.1 hq (by first | (intro z; simp only [List.mem_cons, List.not_mem_nil, or_false] at z <;> omega) | omega)) cpx_) (fun l_ h1 h2 z => by have hz := oth_tK own_ hTH4888 ga0 (i := l_) (by omega) (j := (12 + x4891.toNatClampNeg)) (by omega) (by omega) edp_ (fun q t hq ht n0 nk => m5284 q t hq n0 (by rw [eq5245]; exact nk 1 (by decide)) (by rw [eq5246]; exact nk 2 (by decide)) (by rw [eq5247]; exact nk 3 (by decide)) (by rw [eq5248]; exact nk 4 (by decide)) (by rw [eq5249]; exact nk 5 (by decide)) (by rw [eq5250]; exact nk 6 (by decide)) (by rw [eq5251]; exact nk 7 (by decide)) (by rw [eq5252]; exact nk 8 (by decide))); rw [RFW.wo fy4898_rw (by omega)] at hz; exact z.later hz.1 hz.2)
                have rw5311 : RFW K H5265 s.heap a0 := RFW.tr ⟨fun k hk => fR_kept (x_lt hTH4888 kH5265 ga0 (by decide)), fun k i hk => (by rcases hk with ⟨rfl, _⟩ | ⟨rfl, _⟩ | ⟨rfl, _⟩; exact fR_kept (x_lt hTH4888 kH5265 (ty_fr (q := _) (k := 0) (u := 59) rfl hTH4888 ga0 rg_34 rfl) (by decide)); exact fR_kept (x_lt hTH4888 kH5265 (ty_fr (q := _) (k := 2) (u := 60) rfl hTH4888 ga0 rg_34 rfl) (by decide)); exact fR_kept (x_lt hTH4888 kH5265 (ty_fr (q := _) (k := 3) (u := 61) rfl hTH4888 ga0 rg_34 rfl) (by decide))), fun i hi => RFB.cell (x_lt hTH4888 kH5265 (ow_gK hTH4888 ga0 hi) (by decide)), fun i h1 h2 => (if e : i = (12 + x4891.toNatClampNeg) then (by rw [e, edp_]; exact (fun k h1 h8 => by have hk8 : k = 1 ∨ k = 2 ∨ k = 3 ∨ k = 4 ∨ k = 5 ∨ k = 6 ∨ k = 7 ∨ k = 8 := (by omega); rcases hk8 with rfl | rfl | rfl | rfl | rfl | rfl | rfl | rfl; exact (m5268).symm.trans eq5245; exact (m5269).symm.trans eq5246; exact (m5270).symm.trans eq5247; exact (m5271).symm.trans eq5248; exact (m5272).symm.trans eq5249; exact (m5273).symm.trans eq5250; exact (m5274).symm.trans eq5251; exact (m5275).symm.trans eq5252)) else RFT.cell (oth_tK own_ hTH4888 ga0 ⟨h1, h2⟩ (j := (12 + x4891.toNatClampNeg)) (by omega) e edp_ (fun q t hq ht n0 nk => m5284 q t hq n0 (by rw [eq5245]; exact nk 1 (by decide)) (by rw [eq5246]; exact nk 2 (by decide)) (by rw [eq5247]; exact nk 3 (by decide)) (by rw [eq5248]; exact nk 4 (by decide)) (by rw [eq5249]; exact nk 5 (by decide)) (by rw [eq5250]; exact nk 6 (by decide)) (by rw [eq5251]; exact nk 7 (by decide)) (by rw [eq5252]; exact nk 8 (by decide)))).1)⟩ fy4898_rw
                refine W.eq (g2 := F0 m 89 ls4889 []) rfl ?_
                obtain ⟨x5312, ex5312⟩ : ∃ y : Int32, y = x4891 + 1 := ⟨_, rfl⟩
                have tx5312 := i_add ex5312 (by omega)
                refine lv_iinc (v := x5312) (lv' := [(2, .int x5312), (0, .ref a0), (1, .ref a1)]) hx hb dX8_copyFrom_89 hl4890 (k := 2) rfl (by rw [ex5312]; rfl) (by decide) rfl (fun ls5313 hl5314 => ?_)
                refine lv_goto (tgt := 69) hx hb dX8_copyFrom_92 (by decide) ?_
                have cn_x5312 := i_cl (x := x5312) (by omega)
                have c00_ : (0 : Int32).toNatClampNeg = 0 := rfl
                have c00_ : (0 : Int32).toNatClampNeg = 0 := rfl
                exact ih69 ls5313 H5265 locsH5265 (x5312) (x4892) (x4893) (x4894) (x4895) (x4896) (x4897) (lv_sub hl5314 [1, 2, 0] rfl) hTH5265 hSH5265 (by have := i_rng x5312; omega) bx4892 bx4893 bx4895 bx4896 bx4897 m5286 m5287 m5288 m5289 m5290 m5291 m5292 m5293 m5294 m5295 m5296 m5297 rw5311 (BXT.cast f5285 (by omega)) (TXK.cast tx5310 (by omega)) (by omega) (by omega)
          refine lv_iload_n hx hb dX8_copyFrom_41 rfl (lv_at hl4879 2 rfl) ?_
          refine lv_iconst (v := 2) hx hb dX8_copyFrom_42 (by decide) ?_
          refine lv_icmp_ge (tgt := 67) hx hb dX8_copyFrom_43 (by decide) (fun c5315 => ?_) (fun c5315 => ?_)
          · have k5316 := i_le c5315
            have cl_ := i_cl (x := x4880) (by omega)
            refine lv_iconst (v := 0) hx hb dX8_copyFrom_67 (by decide) ?_
            refine lv_istore_n (lv' := [(2, .int 0), (0, .ref a0), (1, .ref a1)]) hx hb dX8_copyFrom_68 rfl hl4879 (by decide) rfl (fun ls5317 hl5318 => ?_)
            have c00_ : (0 : Int32).toNatClampNeg = 0 := rfl
            have c00_ : (0 : Int32).toNatClampNeg = 0 := rfl
            exact J69 ((4 - (0 : Int32).toInt).toNat + 1) ls5317 H4877 locsH4877 (0) (x4881) (x4882) (x4883) (x4884) (x4885) (x4886) (lv_sub hl5318 [1, 2, 0] rfl) hTH4877 hSH4877 (by decide) bx4881 bx4882 bx4884 bx4885 bx4886 ex4881 ex4882 ex4883 ex4884 ex4885 ex4886 cy4887_0 cy4887_1 cy4887_2 cy4887_3 cy4887_4 cy4887_5 fy4887_rw (BXT.cast fy4887_bx (by omega)) (TXK.cast fy4887_tx (by omega)) (by omega) (by omega)
          · have k5316 := i_nle c5315
            refine lv_aload_n hx hb dX8_copyFrom_46 rfl (lv_at hl4879 0 rfl) ?_
            refine x_gr C hTH4877 (ci := 8) (k := 2) rfl inX8 (by decide) wF_X8_19 ga0 rg_34 rfl dX8_copyFrom_47 (fun q5319 eq5319 gq5319 => ?_)
            replace eq5319 : @Eq Ad q5319 (fR H4877 a0 (K.1.2 8 2)) := eq5319
            refine lv_iload_n hx hb dX8_copyFrom_50 rfl (lv_at hl4879 2 rfl) ?_
            refine x_ar C hTH4877 rfl rfl gq5319 rg_60 ⟨bx4880.1, by show _ < ((2 : Nat) : Int); omega⟩ dX8_copyFrom_51 (fun q5320 eq5320 gq5320 => ?_)
            replace eq5320 : @Eq Ad q5320 (fR H4877 q5319 (x4880 : Int32).toNatClampNeg) := eq5320
            refine lv_aload_n hx hb dX8_copyFrom_52 rfl (lv_at hl4879 1 rfl) ?_
            refine x_gr C hTH4877 (ci := 8) (k := 2) rfl inX8 (by decide) wF_X8_19 ga1 rg_0 rfl dX8_copyFrom_53 (fun q5321 eq5321 gq5321 => ?_)
            replace eq5321 : @Eq Ad q5321 (fR H4877 a1 (K.1.2 8 2)) := eq5321
            refine lv_iload_n hx hb dX8_copyFrom_56 rfl (lv_at hl4879 2 rfl) ?_
            refine x_ar C hTH4877 rfl rfl gq5321 rg_26 ⟨bx4880.1, by show _ < ((2 : Nat) : Int); omega⟩ dX8_copyFrom_57 (fun q5322 eq5322 gq5322 => ?_)
            replace eq5322 : @Eq Ad q5322 (fR H4877 q5321 (x4880 : Int32).toNatClampNeg) := eq5322
            obtain ⟨q5323, eq5323⟩ : ∃ z : Nat, @Eq Ad z (fR H4877 q5320 (K.1.2 7 1)) := ⟨_, rfl⟩
            have gq5323 := ty_fr (q := q5323) (k := 1) (u := 51) eq5323 hTH4877 gq5320 rg_50 rfl
            obtain ⟨q5324, eq5324⟩ : ∃ z : Nat, @Eq Ad z (fR H4877 q5320 (K.1.2 7 2)) := ⟨_, rfl⟩
            have gq5324 := ty_fr (q := q5324) (k := 2) (u := 52) eq5324 hTH4877 gq5320 rg_50 rfl
            obtain ⟨q5325, eq5325⟩ : ∃ z : Nat, @Eq Ad z (fR H4877 q5320 (K.1.2 7 3)) := ⟨_, rfl⟩
            have gq5325 := ty_fr (q := q5325) (k := 3) (u := 53) eq5325 hTH4877 gq5320 rg_50 rfl
            obtain ⟨q5326, eq5326⟩ : ∃ z : Nat, @Eq Ad z (fR H4877 q5320 (K.1.2 7 4)) := ⟨_, rfl⟩
            have gq5326 := ty_fr (q := q5326) (k := 4) (u := 54) eq5326 hTH4877 gq5320 rg_50 rfl
            obtain ⟨q5327, eq5327⟩ : ∃ z : Nat, @Eq Ad z (fR H4877 q5320 (K.1.2 7 5)) := ⟨_, rfl⟩
            have gq5327 := ty_fr (q := q5327) (k := 5) (u := 55) eq5327 hTH4877 gq5320 rg_50 rfl
            obtain ⟨q5328, eq5328⟩ : ∃ z : Nat, @Eq Ad z (fR H4877 q5320 (K.1.2 7 6)) := ⟨_, rfl⟩
            have gq5328 := ty_fr (q := q5328) (k := 6) (u := 56) eq5328 hTH4877 gq5320 rg_50 rfl
            obtain ⟨q5329, eq5329⟩ : ∃ z : Nat, @Eq Ad z (fR H4877 q5320 (K.1.2 7 7)) := ⟨_, rfl⟩
            have gq5329 := ty_fr (q := q5329) (k := 7) (u := 57) eq5329 hTH4877 gq5320 rg_50 rfl
            obtain ⟨q5330, eq5330⟩ : ∃ z : Nat, @Eq Ad z (fR H4877 q5320 (K.1.2 7 8)) := ⟨_, rfl⟩
            have gq5330 := ty_fr (q := q5330) (k := 8) (u := 58) eq5330 hTH4877 gq5320 rg_50 rfl
            obtain ⟨q5331, eq5331⟩ : ∃ z : Nat, @Eq Ad z (fR H4877 q5322 (K.1.2 7 1)) := ⟨_, rfl⟩
            have gq5331 := ty_fr (q := q5331) (k := 1) (u := 17) eq5331 hTH4877 gq5322 rg_16 rfl
            obtain ⟨q5332, eq5332⟩ : ∃ z : Nat, @Eq Ad z (fR H4877 q5322 (K.1.2 7 2)) := ⟨_, rfl⟩
            have gq5332 := ty_fr (q := q5332) (k := 2) (u := 18) eq5332 hTH4877 gq5322 rg_16 rfl
            obtain ⟨q5333, eq5333⟩ : ∃ z : Nat, @Eq Ad z (fR H4877 q5322 (K.1.2 7 3)) := ⟨_, rfl⟩
            have gq5333 := ty_fr (q := q5333) (k := 3) (u := 19) eq5333 hTH4877 gq5322 rg_16 rfl
            obtain ⟨q5334, eq5334⟩ : ∃ z : Nat, @Eq Ad z (fR H4877 q5322 (K.1.2 7 4)) := ⟨_, rfl⟩
            have gq5334 := ty_fr (q := q5334) (k := 4) (u := 20) eq5334 hTH4877 gq5322 rg_16 rfl
            obtain ⟨q5335, eq5335⟩ : ∃ z : Nat, @Eq Ad z (fR H4877 q5322 (K.1.2 7 5)) := ⟨_, rfl⟩
            have gq5335 := ty_fr (q := q5335) (k := 5) (u := 21) eq5335 hTH4877 gq5322 rg_16 rfl
            obtain ⟨q5336, eq5336⟩ : ∃ z : Nat, @Eq Ad z (fR H4877 q5322 (K.1.2 7 6)) := ⟨_, rfl⟩
            have gq5336 := ty_fr (q := q5336) (k := 6) (u := 22) eq5336 hTH4877 gq5322 rg_16 rfl
            obtain ⟨q5337, eq5337⟩ : ∃ z : Nat, @Eq Ad z (fR H4877 q5322 (K.1.2 7 7)) := ⟨_, rfl⟩
            have gq5337 := ty_fr (q := q5337) (k := 7) (u := 23) eq5337 hTH4877 gq5322 rg_16 rfl
            obtain ⟨q5338, eq5338⟩ : ∃ z : Nat, @Eq Ad z (fR H4877 q5322 (K.1.2 7 8)) := ⟨_, rfl⟩
            have gq5338 := ty_fr (q := q5338) (k := 8) (u := 24) eq5338 hTH4877 gq5322 rg_16 rfl
            obtain ⟨x5339, ex5339⟩ : ∃ z : Int32, z = fI H4877 q5320 (K.1.2 7 0) := ⟨_, rfl⟩
            have bx5339 := ty_fi (x := x5339) (k := 0) ex5339 hTH4877 gq5320 rg_50 rfl
            obtain ⟨x5340, ex5340⟩ : ∃ z : Int32, z = fI H4877 q5320 (K.1.2 7 9) := ⟨_, rfl⟩
            have bx5340 := ty_fi (x := x5340) (k := 9) ex5340 hTH4877 gq5320 rg_50 rfl
            obtain ⟨x5341, ex5341⟩ : ∃ z : Int32, z = fI H4877 q5322 (K.1.2 7 0) := ⟨_, rfl⟩
            have bx5341 := ty_fi (x := x5341) (k := 0) ex5341 hTH4877 gq5322 rg_16 rfl
            obtain ⟨x5342, ex5342⟩ : ∃ z : Int32, z = fI H4877 q5322 (K.1.2 7 9) := ⟨_, rfl⟩
            have bx5342 := ty_fi (x := x5342) (k := 9) ex5342 hTH4877 gq5322 rg_16 rfl
            refine x_V (As := [.ref q5322]) (rest := []) C (a_X7_copyFrom_gk l K G H4877 (x5339) (x5340) (x5341) (x5342) hTH4877 gq5320 gq5322 gq5323 eq5323 gq5324 eq5324 gq5325 eq5325 gq5326 eq5326 gq5327 eq5327 gq5328 eq5328 gq5329 eq5329 gq5330 eq5330 gq5331 eq5331 gq5332 eq5332 gq5333 eq5333 gq5334 eq5334 gq5335 eq5335 gq5336 eq5336 gq5337 eq5337 gq5338 eq5338 ex5339 ex5340 ex5341 ex5342) yo_X7_copyFrom wM_X8_64 ⟨⟨by decide, by decide⟩, by decide, by decide⟩ (x_rv C hTH4877 (ci := 7) rfl gq5320 rg_50) rfl hl4879.1 rfl (Nat.le_of_ble_eq_true rfl) dX8_copyFrom_58 hSH4877 (AE_sub (fun _ _ => rfl) (by decide) hSH4877.1) (fun vH5343 H5343 locsH5343 pH5343 zH5343 kH5343 hSH5343 => ?_)
            obtain ⟨x5344, x5345, hvH5343, ex5344, ex5345, hrH5343, m5346, m5347, m5348, m5349, m5350, m5351, m5352, m5353, m5354, m5355, m5356, m5357, m5358, m5359, m5360, m5361, m5362, hTH5343⟩ := pH5343
            subst hvH5343
            have f5363 : BXT K H5343 s.heap a0 a1 u1.toInt := BXT.keptK hT ga0 hTH4877 (fun q t hq ht => x_lt hTH4877 kH5343 hq (by first | (intro z; simp only [List.mem_cons, List.not_mem_nil, or_false] at z <;> omega) | omega)) fy4887_bx
            have m5364 := (ex4881).trans (fI_kept (x_lt hTH4877 kH5343 ga0 (by decide))).symm
            have m5365 := (ex4882).trans (fI_kept (x_lt hTH4877 kH5343 ga0 (by decide))).symm
            have m5366 := (ex4883).trans (fI_kept (x_lt hTH4877 kH5343 ga0 (by decide))).symm
            have m5367 := (ex4884).trans (fI_kept (x_lt hTH4877 kH5343 ga0 (by decide))).symm
            have m5368 := (ex4885).trans (fI_kept (x_lt hTH4877 kH5343 ga0 (by decide))).symm
            have m5369 := (ex4886).trans (fI_kept (x_lt hTH4877 kH5343 ga0 (by decide))).symm
            have m5370 := (cy4887_0).trans (fI_kept (x_lt hTH4877 kH5343 ga1 (by decide))).symm
            have m5371 := (cy4887_1).trans (fI_kept (x_lt hTH4877 kH5343 ga1 (by decide))).symm
            have m5372 := (cy4887_2).trans (fI_kept (x_lt hTH4877 kH5343 ga1 (by decide))).symm
            have m5373 := (cy4887_3).trans (fI_kept (x_lt hTH4877 kH5343 ga1 (by decide))).symm
            have m5374 := (cy4887_4).trans (fI_kept (x_lt hTH4877 kH5343 ga1 (by decide))).symm
            have m5375 := (cy4887_5).trans (fI_kept (x_lt hTH4877 kH5343 ga1 (by decide))).symm
            have m5376 := (eq5319).trans (fR_kept (x_lt hTH4877 kH5343 ga0 (by decide))).symm
            have m5377 := (eq5321).trans (fR_kept (x_lt hTH4877 kH5343 ga1 (by decide))).symm
            have m5378 := (eq5331).trans (fR_kept (x_lt hTH4877 kH5343 gq5322 (by decide))).symm
            have m5379 := (eq5332).trans (fR_kept (x_lt hTH4877 kH5343 gq5322 (by decide))).symm
            have m5380 := (eq5333).trans (fR_kept (x_lt hTH4877 kH5343 gq5322 (by decide))).symm
            have m5381 := (eq5334).trans (fR_kept (x_lt hTH4877 kH5343 gq5322 (by decide))).symm
            have m5382 := (eq5335).trans (fR_kept (x_lt hTH4877 kH5343 gq5322 (by decide))).symm
            have m5383 := (eq5336).trans (fR_kept (x_lt hTH4877 kH5343 gq5322 (by decide))).symm
            have m5384 := (eq5337).trans (fR_kept (x_lt hTH4877 kH5343 gq5322 (by decide))).symm
            have m5385 := (eq5338).trans (fR_kept (x_lt hTH4877 kH5343 gq5322 (by decide))).symm
            have m5386 := (ex5341).trans (fI_kept (x_lt hTH4877 kH5343 gq5322 (by decide))).symm
            have m5387 := (ex5342).trans (fI_kept (x_lt hTH4877 kH5343 gq5322 (by decide))).symm
            have bx5344 := ty_fi (x := x5344) (k := 0) ex5344 hTH5343 gq5320 rg_50 rfl
            have bx5345 := ty_fi (x := x5345) (k := 9) ex5345 hTH5343 gq5320 rg_50 rfl
            have cn_x4880 := i_cl (x := x4880) bx4880.1
            have own_ : OWN K H4877 a0 := hy0.st fy4887_rw
            have hL_ : x4880.toNatClampNeg < 2 := by omega
            have ed_ : ow K s.heap a0 (10 + x4880.toNatClampNeg) = q5320 := by rw [← RFW.wo fy4887_rw (by omega), ow_l hL_, ← eq5319, ← eq5320]
            have es_ : ow K s.heap a1 (10 + x4880.toNatClampNeg) = q5322 := by rw [← RFW.wo (RFW.cell hT ga1 (fun q t hq ht => x_lt hT hSH4877.2.1 hq (by first | (intro z; simp only [List.mem_cons, List.not_mem_nil, or_false] at z <;> omega) | omega))) (by omega), ow_l hL_, ← eq5321, ← eq5322]
            have edp_ : ow K H4877 a0 (10 + x4880.toNatClampNeg) = q5320 := (RFW.wo fy4887_rw (by omega)).trans ed_
            have cpx_ : CPX K H5343 H4877 q5320 q5322 := ⟨by rw [← ex5344, ← ex5341]; exact Int32.toInt_inj.mp hrH5343.1, by rw [← ex5345, ← ex5342]; exact Int32.toInt_inj.mp hrH5343.2, fun k h1 h7 => by have hk7 : k = 1 ∨ k = 2 ∨ k = 3 ∨ k = 4 ∨ k = 5 ∨ k = 6 ∨ k = 7 := (by omega); rcases hk7 with rfl | rfl | rfl | rfl | rfl | rfl | rfl; exact (by rw [← m5346, ← eq5331]; exact m5354); exact (by rw [← m5347, ← eq5332]; exact m5355); exact (by rw [← m5348, ← eq5333]; exact m5356); exact (by rw [← m5349, ← eq5334]; exact m5357); exact (by rw [← m5350, ← eq5335]; exact m5358); exact (by rw [← m5351, ← eq5336]; exact m5359); exact (by rw [← m5352, ← eq5337]; exact m5360), by rw [← ex5342, ← m5353, ← eq5338]; exact m5361⟩
            have tx5388 : TXK K H5343 s.heap a0 a1 ((10 + x4880.toNatClampNeg) + 1) := TXK.go (TXK.cast fy4887_tx (by omega)) (by omega) rfl ed_ es_ (tx_s hT gq5322 (fun q t hq ht => x_lt hT hSH4877.2.1 hq (by first | (intro z; simp only [List.mem_cons, List.not_mem_nil, or_false] at z <;> omega) | omega)) cpx_) (fun l_ h1 h2 z => by have hz := oth_tK own_ hTH4877 ga0 (i := l_) (by omega) (j := (10 + x4880.toNatClampNeg)) (by omega) (by omega) edp_ (fun q t hq ht n0 nk => m5362 q t hq n0 (by rw [eq5323]; exact nk 1 (by decide)) (by rw [eq5324]; exact nk 2 (by decide)) (by rw [eq5325]; exact nk 3 (by decide)) (by rw [eq5326]; exact nk 4 (by decide)) (by rw [eq5327]; exact nk 5 (by decide)) (by rw [eq5328]; exact nk 6 (by decide)) (by rw [eq5329]; exact nk 7 (by decide)) (by rw [eq5330]; exact nk 8 (by decide))); rw [RFW.wo fy4887_rw (by omega)] at hz; exact z.later hz.1 hz.2)
            have rw5389 : RFW K H5343 s.heap a0 := RFW.tr ⟨fun k hk => fR_kept (x_lt hTH4877 kH5343 ga0 (by decide)), fun k i hk => (by rcases hk with ⟨rfl, _⟩ | ⟨rfl, _⟩ | ⟨rfl, _⟩; exact fR_kept (x_lt hTH4877 kH5343 (ty_fr (q := _) (k := 0) (u := 59) rfl hTH4877 ga0 rg_34 rfl) (by decide)); exact fR_kept (x_lt hTH4877 kH5343 (ty_fr (q := _) (k := 2) (u := 60) rfl hTH4877 ga0 rg_34 rfl) (by decide)); exact fR_kept (x_lt hTH4877 kH5343 (ty_fr (q := _) (k := 3) (u := 61) rfl hTH4877 ga0 rg_34 rfl) (by decide))), fun i hi => RFB.cell (x_lt hTH4877 kH5343 (ow_gK hTH4877 ga0 hi) (by decide)), fun i h1 h2 => (if e : i = (10 + x4880.toNatClampNeg) then (by rw [e, edp_]; exact (fun k h1 h8 => by have hk8 : k = 1 ∨ k = 2 ∨ k = 3 ∨ k = 4 ∨ k = 5 ∨ k = 6 ∨ k = 7 ∨ k = 8 := (by omega); rcases hk8 with rfl | rfl | rfl | rfl | rfl | rfl | rfl | rfl; exact (m5346).symm.trans eq5323; exact (m5347).symm.trans eq5324; exact (m5348).symm.trans eq5325; exact (m5349).symm.trans eq5326; exact (m5350).symm.trans eq5327; exact (m5351).symm.trans eq5328; exact (m5352).symm.trans eq5329; exact (m5353).symm.trans eq5330)) else RFT.cell (oth_tK own_ hTH4877 ga0 ⟨h1, h2⟩ (j := (10 + x4880.toNatClampNeg)) (by omega) e edp_ (fun q t hq ht n0 nk => m5362 q t hq n0 (by rw [eq5323]; exact nk 1 (by decide)) (by rw [eq5324]; exact nk 2 (by decide)) (by rw [eq5325]; exact nk 3 (by decide)) (by rw [eq5326]; exact nk 4 (by decide)) (by rw [eq5327]; exact nk 5 (by decide)) (by rw [eq5328]; exact nk 6 (by decide)) (by rw [eq5329]; exact nk 7 (by decide)) (by rw [eq5330]; exact nk 8 (by decide)))).1)⟩ fy4887_rw
            refine W.eq (g2 := F0 m 61 ls4878 []) rfl ?_
            obtain ⟨x5390, ex5390⟩ : ∃ y : Int32, y = x4880 + 1 := ⟨_, rfl⟩
            have tx5390 := i_add ex5390 (by omega)
            refine lv_iinc (v := x5390) (lv' := [(2, .int x5390), (0, .ref a0), (1, .ref a1)]) hx hb dX8_copyFrom_61 hl4879 (k := 2) rfl (by rw [ex5390]; rfl) (by decide) rfl (fun ls5391 hl5392 => ?_)
            refine lv_goto (tgt := 41) hx hb dX8_copyFrom_64 (by decide) ?_
            have cn_x5390 := i_cl (x := x5390) (by omega)
            have c00_ : (0 : Int32).toNatClampNeg = 0 := rfl
            have c00_ : (0 : Int32).toNatClampNeg = 0 := rfl
            exact ih41 ls5391 H5343 locsH5343 (x5390) (x4881) (x4882) (x4883) (x4884) (x4885) (x4886) (lv_sub hl5392 [1, 2, 0] rfl) hTH5343 hSH5343 (by have := i_rng x5390; omega) bx4881 bx4882 bx4884 bx4885 bx4886 m5364 m5365 m5366 m5367 m5368 m5369 m5370 m5371 m5372 m5373 m5374 m5375 rw5389 (BXT.cast f5363 (by omega)) (TXK.cast tx5388 (by omega)) (by omega) (by omega)
      refine lv_iload_n hx hb dX8_copyFrom_2 rfl (lv_at hl4868 2 rfl) ?_
      refine lv_aload_n hx hb dX8_copyFrom_3 rfl (lv_at hl4868 1 rfl) ?_
      refine x_gi C hTH4866 (ci := 8) (k := 1) rfl inX8 (by decide) wF_X8_57 ga1 rg_0 rfl dX8_copyFrom_4 (fun x5393 ex5393 bx5393 => ?_)
      have ux5393 : u1 = x5393 := (cy4876_0).trans ex5393.symm
      subst ux5393
      refine lv_icmp_ge (tgt := 31) hx hb dX8_copyFrom_7 (by decide) (fun c5394 => ?_) (fun c5394 => ?_)
      · have k5395 := i_le c5394
        refine lv_aload_n hx hb dX8_copyFrom_31 rfl (lv_at hl4868 0 rfl) ?_
        refine lv_aload_n hx hb dX8_copyFrom_32 rfl (lv_at hl4868 1 rfl) ?_
        refine x_gi C hTH4866 (ci := 8) (k := 1) rfl inX8 (by decide) wF_X8_57 ga1 rg_0 rfl dX8_copyFrom_33 (fun x5396 ex5396 bx5396 => ?_)
        have ux5396 : u1 = x5396 := (cy4876_0).trans ex5396.symm
        subst ux5396
        refine x_put C hTH4866 hSH4866 (ci := 8) (k := 1) (v := .int u1) (ty0 := tyX8) rfl inX8 tyX8_ok nmX8 (by decide) rfl wF_X8_57 ga0 rg_34 rfl rfl (okI (by omega) (by omega)) rfl rfl (AE_in ga0 (by decide)) dX8_copyFrom_36 (fun H5397 locsH5397 hTH5397 hSH5397 wH5397 => ?_)
        have f5398 : RFW K H5397 s.heap a0 := RFW.tr (RFW.wrK hTH4866 ga0 wH5397 hap8 (by decide)) fy4876_rw
        have f5399 : BXT K H5397 s.heap a0 a1 x4869.toInt := BXT.keptK hT ga0 hTH4866 (fun q t hq ht => wH5397.off (G_ne hq ga0 (by first | (intro z; simp only [List.mem_cons, List.not_mem_nil, or_false] at z <;> omega) | omega))) fy4876_bx
        have f5400 : TXK K H5397 s.heap a0 a1 10 := TXK.keptK hT ga0 hTH4866 (fun q t hq ht => wH5397.off (G_ne hq ga0 (by first | (intro z; simp only [List.mem_cons, List.not_mem_nil, or_false] at z <;> omega) | omega))) fy4876_tx
        have m5402 := ex4871.trans (Wr.neI wH5397 (Or.inr (x_apart hKT hts inX8 tyX8 tyX8_ok nmX8 rfl 4 1 (by decide) (by decide) (by decide)))).symm
        have m5403 := ex4872.trans (Wr.neI wH5397 (Or.inr (x_apart hKT hts inX8 tyX8 tyX8_ok nmX8 rfl 5 1 (by decide) (by decide) (by decide)))).symm
        have m5404 := ex4873.trans (Wr.neI wH5397 (Or.inr (x_apart hKT hts inX8 tyX8 tyX8_ok nmX8 rfl 10 1 (by decide) (by decide) (by decide)))).symm
        have m5405 := ex4874.trans (Wr.neI wH5397 (Or.inr (x_apart hKT hts inX8 tyX8 tyX8_ok nmX8 rfl 13 1 (by decide) (by decide) (by decide)))).symm
        have m5406 := ex4875.trans (Wr.neI wH5397 (Or.inr (x_apart hKT hts inX8 tyX8 tyX8_ok nmX8 rfl 16 1 (by decide) (by decide) (by decide)))).symm
        have m5407 := cy4876_0.trans (Wr.neI wH5397 (Or.inl (G_ne ga1 ga0 (by decide)))).symm
        have m5408 := cy4876_1.trans (Wr.neI wH5397 (Or.inl (G_ne ga1 ga0 (by decide)))).symm
        have m5409 := cy4876_2.trans (Wr.neI wH5397 (Or.inl (G_ne ga1 ga0 (by decide)))).symm
        have m5410 := cy4876_3.trans (Wr.neI wH5397 (Or.inl (G_ne ga1 ga0 (by decide)))).symm
        have m5411 := cy4876_4.trans (Wr.neI wH5397 (Or.inl (G_ne ga1 ga0 (by decide)))).symm
        have m5412 := cy4876_5.trans (Wr.neI wH5397 (Or.inl (G_ne ga1 ga0 (by decide)))).symm
        have m5413 := Wr.I wH5397
        have m5413 := m5413.symm
        refine lv_iconst (v := 0) hx hb dX8_copyFrom_39 (by decide) ?_
        refine lv_istore_n (lv' := [(2, .int 0), (0, .ref a0), (1, .ref a1)]) hx hb dX8_copyFrom_40 rfl hl4868 (by decide) rfl (fun ls5414 hl5415 => ?_)
        have c00_ : (0 : Int32).toNatClampNeg = 0 := rfl
        have c00_ : (0 : Int32).toNatClampNeg = 0 := rfl
        exact J41 ((2 - (0 : Int32).toInt).toNat + 1) ls5414 H5397 locsH5397 (0) (u1) (x4871) (x4872) (x4873) (x4874) (x4875) (lv_sub hl5415 [1, 2, 0] rfl) hTH5397 hSH5397 (by decide) (by have := i_rng u1; omega) bx4871 bx4873 bx4874 bx4875 m5413 m5402 m5403 m5404 m5405 m5406 m5407 m5408 m5409 m5410 m5411 m5412 f5398 (BXT.cast f5399 (by omega)) (TXK.cast f5400 (by omega)) (by omega) (by omega)
      · have k5395 := i_nle c5394
        refine lv_aload_n hx hb dX8_copyFrom_10 rfl (lv_at hl4868 0 rfl) ?_
        refine x_gr C hTH4866 (ci := 8) (k := 0) rfl inX8 (by decide) wF_X8_11 ga0 rg_34 rfl dX8_copyFrom_11 (fun q5416 eq5416 gq5416 => ?_)
        replace eq5416 : @Eq Ad q5416 (fR H4866 a0 (K.1.2 8 0)) := eq5416
        refine lv_iload_n hx hb dX8_copyFrom_14 rfl (lv_at hl4868 2 rfl) ?_
        refine x_ar C hTH4866 rfl rfl gq5416 rg_59 ⟨bx4869.1, by show _ < ((10 : Nat) : Int); omega⟩ dX8_copyFrom_15 (fun q5417 eq5417 gq5417 => ?_)
        replace eq5417 : @Eq Ad q5417 (fR H4866 q5416 (x4869 : Int32).toNatClampNeg) := eq5417
        refine lv_aload_n hx hb dX8_copyFrom_16 rfl (lv_at hl4868 1 rfl) ?_
        refine x_gr C hTH4866 (ci := 8) (k := 0) rfl inX8 (by decide) wF_X8_11 ga1 rg_0 rfl dX8_copyFrom_17 (fun q5418 eq5418 gq5418 => ?_)
        replace eq5418 : @Eq Ad q5418 (fR H4866 a1 (K.1.2 8 0)) := eq5418
        refine lv_iload_n hx hb dX8_copyFrom_20 rfl (lv_at hl4868 2 rfl) ?_
        refine x_ar C hTH4866 rfl rfl gq5418 rg_25 ⟨bx4869.1, by show _ < ((10 : Nat) : Int); omega⟩ dX8_copyFrom_21 (fun q5419 eq5419 gq5419 => ?_)
        replace eq5419 : @Eq Ad q5419 (fR H4866 q5418 (x4869 : Int32).toNatClampNeg) := eq5419
        obtain ⟨q5420, eq5420⟩ : ∃ z : Nat, @Eq Ad z (fR H4866 q5417 (K.1.2 0 1)) := ⟨_, rfl⟩
        have gq5420 := ty_fr (q := q5420) (k := 1) (u := 36) eq5420 hTH4866 gq5417 rg_35 rfl
        obtain ⟨q5421, eq5421⟩ : ∃ z : Nat, @Eq Ad z (fR H4866 q5417 (K.1.2 0 2)) := ⟨_, rfl⟩
        have gq5421 := ty_fr (q := q5421) (k := 2) (u := 37) eq5421 hTH4866 gq5417 rg_35 rfl
        obtain ⟨q5422, eq5422⟩ : ∃ z : Nat, @Eq Ad z (fR H4866 q5417 (K.1.2 0 3)) := ⟨_, rfl⟩
        have gq5422 := ty_fr (q := q5422) (k := 3) (u := 38) eq5422 hTH4866 gq5417 rg_35 rfl
        obtain ⟨q5423, eq5423⟩ : ∃ z : Nat, @Eq Ad z (fR H4866 q5417 (K.1.2 0 4)) := ⟨_, rfl⟩
        have gq5423 := ty_fr (q := q5423) (k := 4) (u := 39) eq5423 hTH4866 gq5417 rg_35 rfl
        obtain ⟨q5424, eq5424⟩ : ∃ z : Nat, @Eq Ad z (fR H4866 q5417 (K.1.2 0 5)) := ⟨_, rfl⟩
        have gq5424 := ty_fr (q := q5424) (k := 5) (u := 40) eq5424 hTH4866 gq5417 rg_35 rfl
        obtain ⟨q5425, eq5425⟩ : ∃ z : Nat, @Eq Ad z (fR H4866 q5417 (K.1.2 0 6)) := ⟨_, rfl⟩
        have gq5425 := ty_fr (q := q5425) (k := 6) (u := 41) eq5425 hTH4866 gq5417 rg_35 rfl
        obtain ⟨q5426, eq5426⟩ : ∃ z : Nat, @Eq Ad z (fR H4866 q5417 (K.1.2 0 7)) := ⟨_, rfl⟩
        have gq5426 := ty_fr (q := q5426) (k := 7) (u := 42) eq5426 hTH4866 gq5417 rg_35 rfl
        obtain ⟨q5427, eq5427⟩ : ∃ z : Nat, @Eq Ad z (fR H4866 q5417 (K.1.2 0 10)) := ⟨_, rfl⟩
        have gq5427 := ty_fr (q := q5427) (k := 10) (u := 43) eq5427 hTH4866 gq5417 rg_35 rfl
        obtain ⟨q5428, eq5428⟩ : ∃ z : Nat, @Eq Ad z (fR H4866 q5417 (K.1.2 0 11)) := ⟨_, rfl⟩
        have gq5428 := ty_fr (q := q5428) (k := 11) (u := 44) eq5428 hTH4866 gq5417 rg_35 rfl
        obtain ⟨q5429, eq5429⟩ : ∃ z : Nat, @Eq Ad z (fR H4866 q5417 (K.1.2 0 12)) := ⟨_, rfl⟩
        have gq5429 := ty_fr (q := q5429) (k := 12) (u := 45) eq5429 hTH4866 gq5417 rg_35 rfl
        obtain ⟨q5430, eq5430⟩ : ∃ z : Nat, @Eq Ad z (fR H4866 q5417 (K.1.2 0 13)) := ⟨_, rfl⟩
        have gq5430 := ty_fr (q := q5430) (k := 13) (u := 47) eq5430 hTH4866 gq5417 rg_35 rfl
        obtain ⟨q5431, eq5431⟩ : ∃ z : Nat, @Eq Ad z (fR H4866 q5417 (K.1.2 0 17)) := ⟨_, rfl⟩
        have gq5431 := ty_fr (q := q5431) (k := 17) (u := 49) eq5431 hTH4866 gq5417 rg_35 rfl
        obtain ⟨q5432, eq5432⟩ : ∃ z : Nat, @Eq Ad z (fR H4866 q5419 (K.1.2 0 1)) := ⟨_, rfl⟩
        have gq5432 := ty_fr (q := q5432) (k := 1) (u := 2) eq5432 hTH4866 gq5419 rg_1 rfl
        obtain ⟨q5433, eq5433⟩ : ∃ z : Nat, @Eq Ad z (fR H4866 q5419 (K.1.2 0 2)) := ⟨_, rfl⟩
        have gq5433 := ty_fr (q := q5433) (k := 2) (u := 3) eq5433 hTH4866 gq5419 rg_1 rfl
        obtain ⟨q5434, eq5434⟩ : ∃ z : Nat, @Eq Ad z (fR H4866 q5419 (K.1.2 0 3)) := ⟨_, rfl⟩
        have gq5434 := ty_fr (q := q5434) (k := 3) (u := 4) eq5434 hTH4866 gq5419 rg_1 rfl
        obtain ⟨q5435, eq5435⟩ : ∃ z : Nat, @Eq Ad z (fR H4866 q5419 (K.1.2 0 4)) := ⟨_, rfl⟩
        have gq5435 := ty_fr (q := q5435) (k := 4) (u := 5) eq5435 hTH4866 gq5419 rg_1 rfl
        obtain ⟨q5436, eq5436⟩ : ∃ z : Nat, @Eq Ad z (fR H4866 q5419 (K.1.2 0 5)) := ⟨_, rfl⟩
        have gq5436 := ty_fr (q := q5436) (k := 5) (u := 6) eq5436 hTH4866 gq5419 rg_1 rfl
        obtain ⟨q5437, eq5437⟩ : ∃ z : Nat, @Eq Ad z (fR H4866 q5419 (K.1.2 0 6)) := ⟨_, rfl⟩
        have gq5437 := ty_fr (q := q5437) (k := 6) (u := 7) eq5437 hTH4866 gq5419 rg_1 rfl
        obtain ⟨q5438, eq5438⟩ : ∃ z : Nat, @Eq Ad z (fR H4866 q5419 (K.1.2 0 7)) := ⟨_, rfl⟩
        have gq5438 := ty_fr (q := q5438) (k := 7) (u := 8) eq5438 hTH4866 gq5419 rg_1 rfl
        obtain ⟨q5439, eq5439⟩ : ∃ z : Nat, @Eq Ad z (fR H4866 q5419 (K.1.2 0 10)) := ⟨_, rfl⟩
        have gq5439 := ty_fr (q := q5439) (k := 10) (u := 9) eq5439 hTH4866 gq5419 rg_1 rfl
        obtain ⟨q5440, eq5440⟩ : ∃ z : Nat, @Eq Ad z (fR H4866 q5419 (K.1.2 0 11)) := ⟨_, rfl⟩
        have gq5440 := ty_fr (q := q5440) (k := 11) (u := 10) eq5440 hTH4866 gq5419 rg_1 rfl
        obtain ⟨q5441, eq5441⟩ : ∃ z : Nat, @Eq Ad z (fR H4866 q5419 (K.1.2 0 12)) := ⟨_, rfl⟩
        have gq5441 := ty_fr (q := q5441) (k := 12) (u := 11) eq5441 hTH4866 gq5419 rg_1 rfl
        obtain ⟨q5442, eq5442⟩ : ∃ z : Nat, @Eq Ad z (fR H4866 q5419 (K.1.2 0 13)) := ⟨_, rfl⟩
        have gq5442 := ty_fr (q := q5442) (k := 13) (u := 13) eq5442 hTH4866 gq5419 rg_1 rfl
        obtain ⟨q5443, eq5443⟩ : ∃ z : Nat, @Eq Ad z (fR H4866 q5419 (K.1.2 0 17)) := ⟨_, rfl⟩
        have gq5443 := ty_fr (q := q5443) (k := 17) (u := 15) eq5443 hTH4866 gq5419 rg_1 rfl
        obtain ⟨x5444, ex5444⟩ : ∃ z : Int32, z = fI H4866 q5417 (K.1.2 0 0) := ⟨_, rfl⟩
        have bx5444 := ty_fi (x := x5444) (k := 0) ex5444 hTH4866 gq5417 rg_35 rfl
        obtain ⟨x5445, ex5445⟩ : ∃ z : Int32, z = fI H4866 q5417 (K.1.2 0 8) := ⟨_, rfl⟩
        have bx5445 := ty_fi (x := x5445) (k := 8) ex5445 hTH4866 gq5417 rg_35 rfl
        obtain ⟨x5446, ex5446⟩ : ∃ z : Int32, z = fI H4866 q5417 (K.1.2 0 9) := ⟨_, rfl⟩
        have bx5446 := ty_fi (x := x5446) (k := 9) ex5446 hTH4866 gq5417 rg_35 rfl
        obtain ⟨x5447, ex5447⟩ : ∃ z : Int32, z = fI H4866 q5419 (K.1.2 0 0) := ⟨_, rfl⟩
        have bx5447 := ty_fi (x := x5447) (k := 0) ex5447 hTH4866 gq5419 rg_1 rfl
        obtain ⟨x5448, ex5448⟩ : ∃ z : Int32, z = fI H4866 q5419 (K.1.2 0 8) := ⟨_, rfl⟩
        have bx5448 := ty_fi (x := x5448) (k := 8) ex5448 hTH4866 gq5419 rg_1 rfl
        obtain ⟨x5449, ex5449⟩ : ∃ z : Int32, z = fI H4866 q5419 (K.1.2 0 9) := ⟨_, rfl⟩
        have bx5449 := ty_fi (x := x5449) (k := 9) ex5449 hTH4866 gq5419 rg_1 rfl
        refine x_V (As := [.ref q5419]) (rest := []) C (a_X0_copyFrom_gk l K G H4866 (x5444) (x5445) (x5446) (x5447) (x5448) (x5449) hTH4866 gq5417 gq5419 gq5420 eq5420 gq5421 eq5421 gq5422 eq5422 gq5423 eq5423 gq5424 eq5424 gq5425 eq5425 gq5426 eq5426 gq5427 eq5427 gq5428 eq5428 gq5429 eq5429 gq5430 eq5430 gq5431 eq5431 gq5432 eq5432 gq5433 eq5433 gq5434 eq5434 gq5435 eq5435 gq5436 eq5436 gq5437 eq5437 gq5438 eq5438 gq5439 eq5439 gq5440 eq5440 gq5441 eq5441 gq5442 eq5442 gq5443 eq5443 ex5444 ex5445 ex5446 ex5447 ex5448 ex5449) yo_X0_copyFrom wM_X8_60 ⟨⟨by decide, by decide⟩, by decide, by decide⟩ (x_rv C hTH4866 (ci := 0) rfl gq5417 rg_35) rfl hl4868.1 rfl (Nat.le_of_ble_eq_true rfl) dX8_copyFrom_22 hSH4866 (AE_sub (fun _ _ => rfl) (by decide) hSH4866.1) (fun vH5450 H5450 locsH5450 pH5450 zH5450 kH5450 hSH5450 => ?_)
        obtain ⟨x5451, x5452, x5453, hvH5450, ex5451, ex5452, ex5453, m5454, m5455, m5456, m5457, m5458, m5459, m5460, m5461, m5462, m5463, m5464, m5465, m5466, m5467, m5468, hTH5450⟩ := pH5450
        subst hvH5450
        have f5469 : TXK K H5450 s.heap a0 a1 10 := TXK.keptK hT ga0 hTH4866 (fun q t hq ht => x_lt hTH4866 kH5450 hq (by first | (intro z; simp only [List.mem_cons, List.not_mem_nil, or_false] at z <;> omega) | omega)) fy4876_tx
        have m5470 := (ex4870).trans (fI_kept (x_lt hTH4866 kH5450 ga0 (by decide))).symm
        have m5471 := (ex4871).trans (fI_kept (x_lt hTH4866 kH5450 ga0 (by decide))).symm
        have m5472 := (ex4872).trans (fI_kept (x_lt hTH4866 kH5450 ga0 (by decide))).symm
        have m5473 := (ex4873).trans (fI_kept (x_lt hTH4866 kH5450 ga0 (by decide))).symm
        have m5474 := (ex4874).trans (fI_kept (x_lt hTH4866 kH5450 ga0 (by decide))).symm
        have m5475 := (ex4875).trans (fI_kept (x_lt hTH4866 kH5450 ga0 (by decide))).symm
        have m5476 := (cy4876_0).trans (fI_kept (x_lt hTH4866 kH5450 ga1 (by decide))).symm
        have m5477 := (cy4876_1).trans (fI_kept (x_lt hTH4866 kH5450 ga1 (by decide))).symm
        have m5478 := (cy4876_2).trans (fI_kept (x_lt hTH4866 kH5450 ga1 (by decide))).symm
        have m5479 := (cy4876_3).trans (fI_kept (x_lt hTH4866 kH5450 ga1 (by decide))).symm
        have m5480 := (cy4876_4).trans (fI_kept (x_lt hTH4866 kH5450 ga1 (by decide))).symm
        have m5481 := (cy4876_5).trans (fI_kept (x_lt hTH4866 kH5450 ga1 (by decide))).symm
        have m5482 := (eq5416).trans (fR_kept (x_lt hTH4866 kH5450 ga0 (by decide))).symm
        have m5483 := (eq5418).trans (fR_kept (x_lt hTH4866 kH5450 ga1 (by decide))).symm
        have m5484 := (eq5432).trans (fR_kept (x_lt hTH4866 kH5450 gq5419 (by decide))).symm
        have m5485 := (eq5433).trans (fR_kept (x_lt hTH4866 kH5450 gq5419 (by decide))).symm
        have m5486 := (eq5434).trans (fR_kept (x_lt hTH4866 kH5450 gq5419 (by decide))).symm
        have m5487 := (eq5435).trans (fR_kept (x_lt hTH4866 kH5450 gq5419 (by decide))).symm
        have m5488 := (eq5436).trans (fR_kept (x_lt hTH4866 kH5450 gq5419 (by decide))).symm
        have m5489 := (eq5437).trans (fR_kept (x_lt hTH4866 kH5450 gq5419 (by decide))).symm
        have m5490 := (eq5438).trans (fR_kept (x_lt hTH4866 kH5450 gq5419 (by decide))).symm
        have m5491 := (eq5439).trans (fR_kept (x_lt hTH4866 kH5450 gq5419 (by decide))).symm
        have m5492 := (eq5440).trans (fR_kept (x_lt hTH4866 kH5450 gq5419 (by decide))).symm
        have m5493 := (eq5441).trans (fR_kept (x_lt hTH4866 kH5450 gq5419 (by decide))).symm
        have m5494 := (eq5442).trans (fR_kept (x_lt hTH4866 kH5450 gq5419 (by decide))).symm
        have m5495 := (eq5443).trans (fR_kept (x_lt hTH4866 kH5450 gq5419 (by decide))).symm
        have m5496 := (ex5447).trans (fI_kept (x_lt hTH4866 kH5450 gq5419 (by decide))).symm
        have m5497 := (ex5448).trans (fI_kept (x_lt hTH4866 kH5450 gq5419 (by decide))).symm
        have m5498 := (ex5449).trans (fI_kept (x_lt hTH4866 kH5450 gq5419 (by decide))).symm
        have bx5451 := ty_fi (x := x5451) (k := 0) ex5451 hTH5450 gq5417 rg_35 rfl
        have bx5452 := ty_fi (x := x5452) (k := 8) ex5452 hTH5450 gq5417 rg_35 rfl
        have bx5453 := ty_fi (x := x5453) (k := 9) ex5453 hTH5450 gq5417 rg_35 rfl
        have cn_x4869 := i_cl (x := x4869) bx4869.1
        have own_ : OWN K H4866 a0 := hy0.st fy4876_rw
        have hL_ : x4869.toNatClampNeg < 10 := by omega
        have ed_ : ow K s.heap a0 x4869.toNatClampNeg = q5417 := by rw [← RFW.wo fy4876_rw (by omega), ow_b hL_, ← eq5416, ← eq5417]
        have es_ : ow K s.heap a1 x4869.toNatClampNeg = q5419 := by rw [← RFW.wo (RFW.cell hT ga1 (fun q t hq ht => x_lt hT hSH4866.2.1 hq (by first | (intro z; simp only [List.mem_cons, List.not_mem_nil, or_false] at z <;> omega) | omega))) (by omega), ow_b hL_, ← eq5418, ← eq5419]
        have edp_ : ow K H4866 a0 x4869.toNatClampNeg = q5417 := (RFW.wo fy4876_rw (by omega)).trans ed_
        have bx5499 : BXT K H5450 s.heap a0 a1 (x4869.toInt + 1) := BXT.go (n := x4869.toInt + 1) (BXT.cast fy4876_bx (by omega)) hL_ (by omega) ed_ es_ m5466 (vw_z hT gq5419 (fun q t hq ht => x_lt hT hSH4866.2.1 hq (by first | (intro z; simp only [List.mem_cons, List.not_mem_nil, or_false] at z <;> omega) | omega))) (fun i hi hn => by rw [← RFW.wo fy4876_rw (by omega)]; exact oth_bK own_ hTH4866 ga0 hi hL_ hn edp_ (fun q t hq ht n0 nk => m5467 q t hq (by omega) (by omega) n0 (by rw [eq5420]; exact nk 1 (by decide)) (by rw [eq5421]; exact nk 2 (by decide)) (by rw [eq5422]; exact nk 3 (by decide)) (by rw [eq5423]; exact nk 4 (by decide)) (by rw [eq5424]; exact nk 5 (by decide)) (by rw [eq5425]; exact nk 6 (by decide)) (by rw [eq5426]; exact nk 7 (by decide)) (by rw [eq5427]; exact nk 10 (by decide)) (by rw [eq5428]; exact nk 11 (by decide)) (by rw [eq5431]; exact nk 17 (by decide))))
        have rw5500 : RFW K H5450 s.heap a0 := RFW.tr ⟨fun k hk => fR_kept (x_lt hTH4866 kH5450 ga0 (by decide)), fun k i hk => (by rcases hk with ⟨rfl, _⟩ | ⟨rfl, _⟩ | ⟨rfl, _⟩; exact fR_kept (x_lt hTH4866 kH5450 (ty_fr (q := _) (k := 0) (u := 59) rfl hTH4866 ga0 rg_34 rfl) (by decide)); exact fR_kept (x_lt hTH4866 kH5450 (ty_fr (q := _) (k := 2) (u := 60) rfl hTH4866 ga0 rg_34 rfl) (by decide)); exact fR_kept (x_lt hTH4866 kH5450 (ty_fr (q := _) (k := 3) (u := 61) rfl hTH4866 ga0 rg_34 rfl) (by decide))), fun i hi => (if e : i = x4869.toNatClampNeg then (by rw [e, edp_]; exact m5468) else RFB.cell (oth_cK own_ hTH4866 ga0 hi hL_ e edp_ (fun q t hq ht n0 nk => m5467 q t hq (by omega) (by omega) n0 (by rw [eq5420]; exact nk 1 (by decide)) (by rw [eq5421]; exact nk 2 (by decide)) (by rw [eq5422]; exact nk 3 (by decide)) (by rw [eq5423]; exact nk 4 (by decide)) (by rw [eq5424]; exact nk 5 (by decide)) (by rw [eq5425]; exact nk 6 (by decide)) (by rw [eq5426]; exact nk 7 (by decide)) (by rw [eq5427]; exact nk 10 (by decide)) (by rw [eq5428]; exact nk 11 (by decide)) (by rw [eq5431]; exact nk 17 (by decide))))), fun i h1 h2 => RFT.cell (x_lt hTH4866 kH5450 (ow_tK hTH4866 ga0 h1 h2) (by decide))⟩ fy4876_rw
        refine W.eq (g2 := F0 m 25 ls4867 []) rfl ?_
        obtain ⟨x5501, ex5501⟩ : ∃ y : Int32, y = x4869 + 1 := ⟨_, rfl⟩
        have tx5501 := i_add ex5501 (by omega)
        refine lv_iinc (v := x5501) (lv' := [(2, .int x5501), (0, .ref a0), (1, .ref a1)]) hx hb dX8_copyFrom_25 hl4868 (k := 2) rfl (by rw [ex5501]; rfl) (by decide) rfl (fun ls5502 hl5503 => ?_)
        refine lv_goto (tgt := 2) hx hb dX8_copyFrom_28 (by decide) ?_
        have cn_x5501 := i_cl (x := x5501) (by omega)
        have c00_ : (0 : Int32).toNatClampNeg = 0 := rfl
        have c00_ : (0 : Int32).toNatClampNeg = 0 := rfl
        exact ih2 ls5502 H5450 locsH5450 (x5501) (x4870) (x4871) (x4872) (x4873) (x4874) (x4875) (lv_sub hl5503 [1, 2, 0] rfl) hTH5450 hSH5450 (by have := i_rng x5501; omega) bx4870 bx4871 bx4873 bx4874 bx4875 m5470 m5471 m5472 m5473 m5474 m5475 m5476 m5477 m5478 m5479 m5480 m5481 rw5500 (BXT.cast bx5499 (by omega)) (TXK.cast f5469 (by omega)) (by omega) (by omega)
  refine lv_iconst (v := 0) hx hb dX8_copyFrom_0 (by decide) ?_
  refine lv_istore_n (lv' := [(2, .int 0), (0, .ref a0), (1, .ref a1)]) hx hb dX8_copyFrom_1 rfl hl (by decide) rfl (fun ls5504 hl5505 => ?_)
  have c00_ : (0 : Int32).toNatClampNeg = 0 := rfl
  have c00_ : (0 : Int32).toNatClampNeg = 0 := rfl
  exact J2 ((10 - (0 : Int32).toInt).toNat + 1) ls5504 s.heap [] (0) (d1) (d4) (d5) (d10) (d13) (d16) (lv_sub hl5505 [1, 2, 0] rfl) hT hS (by decide) (by have := i_rng d1; omega) (by have := i_rng d4; omega) (by have := i_rng d10; omega) (by have := i_rng d13; omega) (by have := i_rng d16; omega) ed1 ed4 ed5 ed10 ed13 ed16 eu1 eu4 eu5 eu10 eu13 eu16 f0_rw (BXT.cast f0_bx (by omega)) (TXK.cast f0_tx (by omega)) (by omega) (by omega)

set_option maxHeartbeats 4000000 in
set_option maxRecDepth 100000 in
theorem a_X8_copyFrom_gn (l : Launch) (K : KE) (G : Nat → Option Nat) (H : Heap) {a0 : Nat} {a1 : Nat} (d1 : Int32) (d4 : Int32) (d5 : Int32) (d10 : Int32) (d13 : Int32) (d16 : Int32) (u1 : Int32) (u4 : Int32) (u5 : Int32) (u10 : Int32) (u13 : Int32) (u16 : Int32) (hT : TY K G H) (ga0 : G a0 = some 0) (ga1 : G a1 = some 34) (ed1 : d1 = fI H a0 (K.1.2 8 1)) (ed4 : d4 = fI H a0 (K.1.2 8 4)) (ed5 : d5 = fI H a0 (K.1.2 8 5)) (ed10 : d10 = fI H a0 (K.1.2 8 10)) (ed13 : d13 = fI H a0 (K.1.2 8 13)) (ed16 : d16 = fI H a0 (K.1.2 8 16)) (eu1 : u1 = fI H a1 (K.1.2 8 1)) (eu4 : u4 = fI H a1 (K.1.2 8 4)) (eu5 : u5 = fI H a1 (K.1.2 8 5)) (eu10 : u10 = fI H a1 (K.1.2 8 10)) (eu13 : u13 = fI H a1 (K.1.2 8 13)) (eu16 : u16 = fI H a1 (K.1.2 8 16)) (hy0 : OWN K H a0) : MX l K yX8_copyFrom cX8_copyFrom 3 none 2 62 0 0 [.ref a0, .ref a1] H (AE G [0, 1, 2, 3, 4, 5, 6, 7, 8, 9, 10, 12, 14, 15, 16, 17, 18, 19, 20, 21, 22, 23, 24, 28, 29, 30, 31, 32, 33] H.size) (fun v H1 => ∃ (t0 : Int32) (t1 : Int32) (t2 : Int32) (t3 : Int32) (t4 : Int32) (t5 : Int32), v = none ∧ t0 = fI H1 a0 (K.1.2 8 1) ∧ t1 = fI H1 a0 (K.1.2 8 4) ∧ t2 = fI H1 a0 (K.1.2 8 5) ∧ t3 = fI H1 a0 (K.1.2 8 10) ∧ t4 = fI H1 a0 (K.1.2 8 13) ∧ t5 = fI H1 a0 (K.1.2 8 16) ∧ (t0.toInt = u1.toInt ∧ t1.toInt = u4.toInt ∧ t2.toInt = u5.toInt ∧ t3.toInt = u10.toInt ∧ t4.toInt = u13.toInt ∧ t5.toInt = u16.toInt) ∧ (RFW K H1 H a0) ∧ (IMX K H1 a0 a1 u1.toInt) ∧ TY K G H1) := by
  refine MX.of (by decide +kernel) (Nat.le_of_ble_eq_true rfl) ?_
  intro p e s m below meth c ls Q C hH hl hQ
  subst hH
  have C : CX p K s m _ meth c RX8 cX8_copyFrom 3 none "copyFrom" := C
  obtain ⟨hx, hb, hml, hown, hts, hKT, hr, hlocks, hnm⟩ := id C
  have hl : lv_has ls 3 [(0, .ref a0), (1, .ref a1)] := hl
  have hS : va_S (AE G [0, 1, 2, 3, 4, 5, 6, 7, 8, 9, 10, 12, 14, 15, 16, 17, 18, 19, 20, 21, 22, 23, 24, 28, 29, 30, 31, 32, 33] s.heap.size) s.heap s.heap [] := va_S.rf
  have n_0 : (0 : Int32).toInt = 0 := rfl
  have n_1 : (1 : Int32).toInt = 1 := rfl
  have n_2 : (2 : Int32).toInt = 2 := rfl
  have n_4 : (4 : Int32).toInt = 4 := rfl
  have n_8 : (8 : Int32).toInt = 8 := rfl
  have n_20 : (20 : Int32).toInt = 20 := rfl
  have bd1 := ty_fi (x := d1) (k := 1) ed1 hT ga0 rg_0 rfl
  have bd4 := ty_fi (x := d4) (k := 4) ed4 hT ga0 rg_0 rfl
  have bd5 := ty_fi (x := d5) (k := 5) ed5 hT ga0 rg_0 rfl
  have bd10 := ty_fi (x := d10) (k := 10) ed10 hT ga0 rg_0 rfl
  have bd13 := ty_fi (x := d13) (k := 13) ed13 hT ga0 rg_0 rfl
  have bd16 := ty_fi (x := d16) (k := 16) ed16 hT ga0 rg_0 rfl
  have bu1 := ty_fi (x := u1) (k := 1) eu1 hT ga1 rg_34 rfl
  have bu4 := ty_fi (x := u4) (k := 4) eu4 hT ga1 rg_34 rfl
  have bu5 := ty_fi (x := u5) (k := 5) eu5 hT ga1 rg_34 rfl
  have bu10 := ty_fi (x := u10) (k := 10) eu10 hT ga1 rg_34 rfl
  have bu13 := ty_fi (x := u13) (k := 13) eu13 hT ga1 rg_34 rfl
  have bu16 := ty_fi (x := u16) (k := 16) eu16 hT ga1 rg_34 rfl
  have hap8 : ∀ x y, x < 17 → y < 17 → x ≠ y → K.1.2 8 x ≠ K.1.2 8 y := x_apart hKT hts inX8 tyX8 tyX8_ok nmX8 rfl
  have f0_rw : RFW K s.heap s.heap a0 := RFW.rf
  have f0_bx : BXT K s.heap s.heap a0 a1 (0 : Int) := BXT.nil (by decide)
  have f0_tx : TXK K s.heap s.heap a0 a1 10 := TXK.nil (by decide)
  have J2 : ∀ (nf : Nat) (ls4867 : Array Slot) (H4866 : Heap) (locsH4866 : List Loc) (x4869 : Int32) (x4870 : Int32) (x4871 : Int32) (x4872 : Int32) (x4873 : Int32) (x4874 : Int32) (x4875 : Int32), lv_has ls4867 3 [(0, .ref a0), (1, .ref a1), (2, .int x4869)] → TY K G H4866 → va_S (AE G [0, 1, 2, 3, 4, 5, 6, 7, 8, 9, 10, 12, 14, 15, 16, 17, 18, 19, 20, 21, 22, 23, 24, 28, 29, 30, 31, 32, 33] s.heap.size) s.heap H4866 locsH4866 → (0 ≤ x4869.toInt ∧ x4869.toInt ≤ 10) → (0 ≤ x4870.toInt ∧ x4870.toInt ≤ 10) → (0 ≤ x4871.toInt ∧ x4871.toInt ≤ 1) → (0 ≤ x4873.toInt ∧ x4873.toInt ≤ 20) → (0 ≤ x4874.toInt ∧ x4874.toInt ≤ 8) → (0 ≤ x4875.toInt ∧ x4875.toInt ≤ 8) → (x4870 = fI H4866 a0 (K.1.2 8 1)) → (x4871 = fI H4866 a0 (K.1.2 8 4)) → (x4872 = fI H4866 a0 (K.1.2 8 5)) → (x4873 = fI H4866 a0 (K.1.2 8 10)) → (x4874 = fI H4866 a0 (K.1.2 8 13)) → (x4875 = fI H4866 a0 (K.1.2 8 16)) → (u1 = fI H4866 a1 (K.1.2 8 1)) → (u4 = fI H4866 a1 (K.1.2 8 4)) → (u5 = fI H4866 a1 (K.1.2 8 5)) → (u10 = fI H4866 a1 (K.1.2 8 10)) → (u13 = fI H4866 a1 (K.1.2 8 13)) → (u16 = fI H4866 a1 (K.1.2 8 16)) → (RFW K H4866 s.heap a0) → (BXT K H4866 s.heap a0 a1 x4869.toInt) → (TXK K H4866 s.heap a0 a1 10) → (10 - x4869.toInt < (nf : Int)) → (x4869.toInt ≤ u1.toInt) → W p l e ({ frames := 2, cells := 0, slots := 0, locals := 62 } : Room) s m (([.ref a0, .ref a1] : List Value).toArray) below meth c H4866 locsH4866 0 0 Q (F0 m 2 ls4867 []) := by
    intro nf
    induction nf with
    | zero =>
      intro ls4867 H4866 locsH4866 x4869 x4870 x4871 x4872 x4873 x4874 x4875 hl4868 hTH4866 hSH4866 bx4869 bx4870 bx4871 bx4873 bx4874 bx4875 ex4870 ex4871 ex4872 ex4873 ex4874 ex4875 cy4876_0 cy4876_1 cy4876_2 cy4876_3 cy4876_4 cy4876_5 fy4876_rw fy4876_bx fy4876_tx hm2 iv2
      have rx4872 := i_rng x4872
      exfalso
      omega
    | succ nf ih2 =>
      intro ls4867 H4866 locsH4866 x4869 x4870 x4871 x4872 x4873 x4874 x4875 hl4868 hTH4866 hSH4866 bx4869 bx4870 bx4871 bx4873 bx4874 bx4875 ex4870 ex4871 ex4872 ex4873 ex4874 ex4875 cy4876_0 cy4876_1 cy4876_2 cy4876_3 cy4876_4 cy4876_5 fy4876_rw fy4876_bx fy4876_tx hm2 iv2
      have rx4872 := i_rng x4872
      have J41 : ∀ (nf : Nat) (ls4878 : Array Slot) (H4877 : Heap) (locsH4877 : List Loc) (x4880 : Int32) (x4881 : Int32) (x4882 : Int32) (x4883 : Int32) (x4884 : Int32) (x4885 : Int32) (x4886 : Int32), lv_has ls4878 3 [(0, .ref a0), (1, .ref a1), (2, .int x4880)] → TY K G H4877 → va_S (AE G [0, 1, 2, 3, 4, 5, 6, 7, 8, 9, 10, 12, 14, 15, 16, 17, 18, 19, 20, 21, 22, 23, 24, 28, 29, 30, 31, 32, 33] s.heap.size) s.heap H4877 locsH4877 → (0 ≤ x4880.toInt ∧ x4880.toInt ≤ 2) → (0 ≤ x4881.toInt ∧ x4881.toInt ≤ 10) → (0 ≤ x4882.toInt ∧ x4882.toInt ≤ 1) → (0 ≤ x4884.toInt ∧ x4884.toInt ≤ 20) → (0 ≤ x4885.toInt ∧ x4885.toInt ≤ 8) → (0 ≤ x4886.toInt ∧ x4886.toInt ≤ 8) → (x4881 = fI H4877 a0 (K.1.2 8 1)) → (x4882 = fI H4877 a0 (K.1.2 8 4)) → (x4883 = fI H4877 a0 (K.1.2 8 5)) → (x4884 = fI H4877 a0 (K.1.2 8 10)) → (x4885 = fI H4877 a0 (K.1.2 8 13)) → (x4886 = fI H4877 a0 (K.1.2 8 16)) → (u1 = fI H4877 a1 (K.1.2 8 1)) → (u4 = fI H4877 a1 (K.1.2 8 4)) → (u5 = fI H4877 a1 (K.1.2 8 5)) → (u10 = fI H4877 a1 (K.1.2 8 10)) → (u13 = fI H4877 a1 (K.1.2 8 13)) → (u16 = fI H4877 a1 (K.1.2 8 16)) → (RFW K H4877 s.heap a0) → (BXT K H4877 s.heap a0 a1 u1.toInt) → (TXK K H4877 s.heap a0 a1 (10 + x4880.toNatClampNeg)) → (2 - x4880.toInt < (nf : Int)) → (x4881.toInt = u1.toInt) → W p l e ({ frames := 2, cells := 0, slots := 0, locals := 62 } : Room) s m (([.ref a0, .ref a1] : List Value).toArray) below meth c H4877 locsH4877 0 0 Q (F0 m 41 ls4878 []) := by
        intro nf
        induction nf with
        | zero =>
          intro ls4878 H4877 locsH4877 x4880 x4881 x4882 x4883 x4884 x4885 x4886 hl4879 hTH4877 hSH4877 bx4880 bx4881 bx4882 bx4884 bx4885 bx4886 ex4881 ex4882 ex4883 ex4884 ex4885 ex4886 cy4887_0 cy4887_1 cy4887_2 cy4887_3 cy4887_4 cy4887_5 fy4887_rw fy4887_bx fy4887_tx hm41 iv41
          have rx4883 := i_rng x4883
          exfalso
          omega
        | succ nf ih41 =>
          intro ls4878 H4877 locsH4877 x4880 x4881 x4882 x4883 x4884 x4885 x4886 hl4879 hTH4877 hSH4877 bx4880 bx4881 bx4882 bx4884 bx4885 bx4886 ex4881 ex4882 ex4883 ex4884 ex4885 ex4886 cy4887_0 cy4887_1 cy4887_2 cy4887_3 cy4887_4 cy4887_5 fy4887_rw fy4887_bx fy4887_tx hm41 iv41
          have rx4883 := i_rng x4883
          have J69 : ∀ (nf : Nat) (ls4889 : Array Slot) (H4888 : Heap) (locsH4888 : List Loc) (x4891 : Int32) (x4892 : Int32) (x4893 : Int32) (x4894 : Int32) (x4895 : Int32) (x4896 : Int32) (x4897 : Int32), lv_has ls4889 3 [(0, .ref a0), (1, .ref a1), (2, .int x4891)] → TY K G H4888 → va_S (AE G [0, 1, 2, 3, 4, 5, 6, 7, 8, 9, 10, 12, 14, 15, 16, 17, 18, 19, 20, 21, 22, 23, 24, 28, 29, 30, 31, 32, 33] s.heap.size) s.heap H4888 locsH4888 → (0 ≤ x4891.toInt ∧ x4891.toInt ≤ 4) → (0 ≤ x4892.toInt ∧ x4892.toInt ≤ 10) → (0 ≤ x4893.toInt ∧ x4893.toInt ≤ 1) → (0 ≤ x4895.toInt ∧ x4895.toInt ≤ 20) → (0 ≤ x4896.toInt ∧ x4896.toInt ≤ 8) → (0 ≤ x4897.toInt ∧ x4897.toInt ≤ 8) → (x4892 = fI H4888 a0 (K.1.2 8 1)) → (x4893 = fI H4888 a0 (K.1.2 8 4)) → (x4894 = fI H4888 a0 (K.1.2 8 5)) → (x4895 = fI H4888 a0 (K.1.2 8 10)) → (x4896 = fI H4888 a0 (K.1.2 8 13)) → (x4897 = fI H4888 a0 (K.1.2 8 16)) → (u1 = fI H4888 a1 (K.1.2 8 1)) → (u4 = fI H4888 a1 (K.1.2 8 4)) → (u5 = fI H4888 a1 (K.1.2 8 5)) → (u10 = fI H4888 a1 (K.1.2 8 10)) → (u13 = fI H4888 a1 (K.1.2 8 13)) → (u16 = fI H4888 a1 (K.1.2 8 16)) → (RFW K H4888 s.heap a0) → (BXT K H4888 s.heap a0 a1 u1.toInt) → (TXK K H4888 s.heap a0 a1 (12 + x4891.toNatClampNeg)) → (4 - x4891.toInt < (nf : Int)) → (x4892.toInt = u1.toInt) → W p l e ({ frames := 2, cells := 0, slots := 0, locals := 62 } : Room) s m (([.ref a0, .ref a1] : List Value).toArray) below meth c H4888 locsH4888 0 0 Q (F0 m 69 ls4889 []) := by
            intro nf
            induction nf with
            | zero =>
              intro ls4889 H4888 locsH4888 x4891 x4892 x4893 x4894 x4895 x4896 x4897 hl4890 hTH4888 hSH4888 bx4891 bx4892 bx4893 bx4895 bx4896 bx4897 ex4892 ex4893 ex4894 ex4895 ex4896 ex4897 cy4898_0 cy4898_1 cy4898_2 cy4898_3 cy4898_4 cy4898_5 fy4898_rw fy4898_bx fy4898_tx hm69 iv69
              have rx4894 := i_rng x4894
              exfalso
              omega
            | succ nf ih69 =>
              intro ls4889 H4888 locsH4888 x4891 x4892 x4893 x4894 x4895 x4896 x4897 hl4890 hTH4888 hSH4888 bx4891 bx4892 bx4893 bx4895 bx4896 bx4897 ex4892 ex4893 ex4894 ex4895 ex4896 ex4897 cy4898_0 cy4898_1 cy4898_2 cy4898_3 cy4898_4 cy4898_5 fy4898_rw fy4898_bx fy4898_tx hm69 iv69
              have rx4894 := i_rng x4894
              refine lv_iload_n hx hb dX8_copyFrom_69 rfl (lv_at hl4890 2 rfl) ?_
              refine lv_iconst (v := 4) hx hb dX8_copyFrom_70 (by decide) ?_
              refine lv_icmp_ge (tgt := 95) hx hb dX8_copyFrom_71 (by decide) (fun c4899 => ?_) (fun c4899 => ?_)
              · have k4900 := i_le c4899
                have cl_ := i_cl (x := x4891) (by omega)
                refine lv_aload_n hx hb dX8_copyFrom_95 rfl (lv_at hl4890 0 rfl) ?_
                refine lv_aload_n hx hb dX8_copyFrom_96 rfl (lv_at hl4890 1 rfl) ?_
                refine x_gi C hTH4888 (ci := 8) (k := 4) rfl inX8 (by decide) wF_X8_54 ga1 rg_34 rfl dX8_copyFrom_97 (fun x4901 ex4901 bx4901 => ?_)
                have ux4901 : u4 = x4901 := (cy4898_1).trans ex4901.symm
                subst ux4901
                refine x_put C hTH4888 hSH4888 (ci := 8) (k := 4) (v := .int u4) (ty0 := tyX8) rfl inX8 tyX8_ok nmX8 (by decide) rfl wF_X8_54 ga0 rg_0 rfl rfl (okI (by omega) (by omega)) rfl rfl (AE_in ga0 (by decide)) dX8_copyFrom_100 (fun H4902 locsH4902 hTH4902 hSH4902 wH4902 => ?_)
                have f4903 : RFW K H4902 s.heap a0 := RFW.tr (RFW.wr hTH4888 ga0 wH4902 hap8 (by decide)) fy4898_rw
                have f4904 : BXT K H4902 s.heap a0 a1 u1.toInt := BXT.kept hT ga0 hTH4888 (fun q t hq ht => wH4902.off (G_ne hq ga0 (by first | (intro z; simp only [List.mem_cons, List.not_mem_nil, or_false] at z <;> omega) | omega))) fy4898_bx
                have f4905 : TXK K H4902 s.heap a0 a1 (12 + x4891.toNatClampNeg) := TXK.kept hT ga0 hTH4888 (fun q t hq ht => wH4902.off (G_ne hq ga0 (by first | (intro z; simp only [List.mem_cons, List.not_mem_nil, or_false] at z <;> omega) | omega))) fy4898_tx
                have m4906 := ex4892.trans (Wr.neI wH4902 (Or.inr (x_apart hKT hts inX8 tyX8 tyX8_ok nmX8 rfl 1 4 (by decide) (by decide) (by decide)))).symm
                have m4908 := ex4894.trans (Wr.neI wH4902 (Or.inr (x_apart hKT hts inX8 tyX8 tyX8_ok nmX8 rfl 5 4 (by decide) (by decide) (by decide)))).symm
                have m4909 := ex4895.trans (Wr.neI wH4902 (Or.inr (x_apart hKT hts inX8 tyX8 tyX8_ok nmX8 rfl 10 4 (by decide) (by decide) (by decide)))).symm
                have m4910 := ex4896.trans (Wr.neI wH4902 (Or.inr (x_apart hKT hts inX8 tyX8 tyX8_ok nmX8 rfl 13 4 (by decide) (by decide) (by decide)))).symm
                have m4911 := ex4897.trans (Wr.neI wH4902 (Or.inr (x_apart hKT hts inX8 tyX8 tyX8_ok nmX8 rfl 16 4 (by decide) (by decide) (by decide)))).symm
                have m4912 := cy4898_0.trans (Wr.neI wH4902 (Or.inl (G_ne ga1 ga0 (by decide)))).symm
                have m4913 := cy4898_1.trans (Wr.neI wH4902 (Or.inl (G_ne ga1 ga0 (by decide)))).symm
                have m4914 := cy4898_2.trans (Wr.neI wH4902 (Or.inl (G_ne ga1 ga0 (by decide)))).symm
                have m4915 := cy4898_3.trans (Wr.neI wH4902 (Or.inl (G_ne ga1 ga0 (by decide)))).symm
                have m4916 := cy4898_4.trans (Wr.neI wH4902 (Or.inl (G_ne ga1 ga0 (by decide)))).symm
                have m4917 := cy4898_5.trans (Wr.neI wH4902 (Or.inl (G_ne ga1 ga0 (by decide)))).symm
                have m4918 := Wr.I wH4902
                have m4918 := m4918.symm
                refine lv_aload_n hx hb dX8_copyFrom_103 rfl (lv_at hl4890 0 rfl) ?_
                refine lv_aload_n hx hb dX8_copyFrom_104 rfl (lv_at hl4890 1 rfl) ?_
                refine x_gi C hTH4902 (ci := 8) (k := 5) rfl inX8 (by decide) wF_X8_26 ga1 rg_34 rfl dX8_copyFrom_105 (fun x4919 ex4919 bx4919 => ?_)
                have ux4919 : u5 = x4919 := (m4914).trans ex4919.symm
                subst ux4919
                refine x_put C hTH4902 hSH4902 (ci := 8) (k := 5) (v := .int u5) (ty0 := tyX8) rfl inX8 tyX8_ok nmX8 (by decide) rfl wF_X8_26 ga0 rg_0 rfl rfl (okI (i_rng u5).1 (i_rng u5).2) rfl rfl (AE_in ga0 (by decide)) dX8_copyFrom_108 (fun H4920 locsH4920 hTH4920 hSH4920 wH4920 => ?_)
                have f4921 : RFW K H4920 s.heap a0 := RFW.tr (RFW.wr hTH4902 ga0 wH4920 hap8 (by decide)) f4903
                have f4922 : BXT K H4920 s.heap a0 a1 u1.toInt := BXT.kept hT ga0 hTH4902 (fun q t hq ht => wH4920.off (G_ne hq ga0 (by first | (intro z; simp only [List.mem_cons, List.not_mem_nil, or_false] at z <;> omega) | omega))) f4904
                have f4923 : TXK K H4920 s.heap a0 a1 (12 + x4891.toNatClampNeg) := TXK.kept hT ga0 hTH4902 (fun q t hq ht => wH4920.off (G_ne hq ga0 (by first | (intro z; simp only [List.mem_cons, List.not_mem_nil, or_false] at z <;> omega) | omega))) f4905
                have m4924 := m4906.trans (Wr.neI wH4920 (Or.inr (x_apart hKT hts inX8 tyX8 tyX8_ok nmX8 rfl 1 5 (by decide) (by decide) (by decide)))).symm
                have m4926 := m4909.trans (Wr.neI wH4920 (Or.inr (x_apart hKT hts inX8 tyX8 tyX8_ok nmX8 rfl 10 5 (by decide) (by decide) (by decide)))).symm
                have m4927 := m4910.trans (Wr.neI wH4920 (Or.inr (x_apart hKT hts inX8 tyX8 tyX8_ok nmX8 rfl 13 5 (by decide) (by decide) (by decide)))).symm
                have m4928 := m4911.trans (Wr.neI wH4920 (Or.inr (x_apart hKT hts inX8 tyX8 tyX8_ok nmX8 rfl 16 5 (by decide) (by decide) (by decide)))).symm
                have m4929 := m4912.trans (Wr.neI wH4920 (Or.inl (G_ne ga1 ga0 (by decide)))).symm
                have m4930 := m4913.trans (Wr.neI wH4920 (Or.inl (G_ne ga1 ga0 (by decide)))).symm
                have m4931 := m4914.trans (Wr.neI wH4920 (Or.inl (G_ne ga1 ga0 (by decide)))).symm
                have m4932 := m4915.trans (Wr.neI wH4920 (Or.inl (G_ne ga1 ga0 (by decide)))).symm
                have m4933 := m4916.trans (Wr.neI wH4920 (Or.inl (G_ne ga1 ga0 (by decide)))).symm
                have m4934 := m4917.trans (Wr.neI wH4920 (Or.inl (G_ne ga1 ga0 (by decide)))).symm
                have m4935 := m4918.trans (Wr.neI wH4920 (Or.inr (x_apart hKT hts inX8 tyX8 tyX8_ok nmX8 rfl 4 5 (by decide) (by decide) (by decide)))).symm
                have m4936 := Wr.I wH4920
                have m4936 := m4936.symm
                refine lv_aload_n hx hb dX8_copyFrom_111 rfl (lv_at hl4890 0 rfl) ?_
                refine lv_aload_n hx hb dX8_copyFrom_112 rfl (lv_at hl4890 1 rfl) ?_
                refine x_gi C hTH4920 (ci := 8) (k := 6) rfl inX8 (by decide) wF_X8_67 ga1 rg_34 rfl dX8_copyFrom_113 (fun x4937 ex4937 bx4937 => ?_)
                refine x_put C hTH4920 hSH4920 (ci := 8) (k := 6) (v := .int x4937) (ty0 := tyX8) rfl inX8 tyX8_ok nmX8 (by decide) rfl wF_X8_67 ga0 rg_0 rfl rfl (okI bx4937.1 bx4937.2) rfl rfl (AE_in ga0 (by decide)) dX8_copyFrom_116 (fun H4938 locsH4938 hTH4938 hSH4938 wH4938 => ?_)
                clear f4903 f4904 f4905 m4906 m4908 m4909 m4910 m4911 m4912 m4913 m4914 m4915 m4916 m4917 m4918
                have f4939 : RFW K H4938 s.heap a0 := RFW.tr (RFW.wr hTH4920 ga0 wH4938 hap8 (by decide)) f4921
                have f4940 : BXT K H4938 s.heap a0 a1 u1.toInt := BXT.kept hT ga0 hTH4920 (fun q t hq ht => wH4938.off (G_ne hq ga0 (by first | (intro z; simp only [List.mem_cons, List.not_mem_nil, or_false] at z <;> omega) | omega))) f4922
                have f4941 : TXK K H4938 s.heap a0 a1 (12 + x4891.toNatClampNeg) := TXK.kept hT ga0 hTH4920 (fun q t hq ht => wH4938.off (G_ne hq ga0 (by first | (intro z; simp only [List.mem_cons, List.not_mem_nil, or_false] at z <;> omega) | omega))) f4923
                have m4942 := m4924.trans (Wr.neI wH4938 (Or.inr (x_apart hKT hts inX8 tyX8 tyX8_ok nmX8 rfl 1 6 (by decide) (by decide) (by decide)))).symm
                have m4943 := m4926.trans (Wr.neI wH4938 (Or.inr (x_apart hKT hts inX8 tyX8 tyX8_ok nmX8 rfl 10 6 (by decide) (by decide) (by decide)))).symm
                have m4944 := m4927.trans (Wr.neI wH4938 (Or.inr (x_apart hKT hts inX8 tyX8 tyX8_ok nmX8 rfl 13 6 (by decide) (by decide) (by decide)))).symm
                have m4945 := m4928.trans (Wr.neI wH4938 (Or.inr (x_apart hKT hts inX8 tyX8 tyX8_ok nmX8 rfl 16 6 (by decide) (by decide) (by decide)))).symm
                have m4946 := m4929.trans (Wr.neI wH4938 (Or.inl (G_ne ga1 ga0 (by decide)))).symm
                have m4947 := m4930.trans (Wr.neI wH4938 (Or.inl (G_ne ga1 ga0 (by decide)))).symm
                have m4948 := m4931.trans (Wr.neI wH4938 (Or.inl (G_ne ga1 ga0 (by decide)))).symm
                have m4949 := m4932.trans (Wr.neI wH4938 (Or.inl (G_ne ga1 ga0 (by decide)))).symm
                have m4950 := m4933.trans (Wr.neI wH4938 (Or.inl (G_ne ga1 ga0 (by decide)))).symm
                have m4951 := m4934.trans (Wr.neI wH4938 (Or.inl (G_ne ga1 ga0 (by decide)))).symm
                have m4952 := m4935.trans (Wr.neI wH4938 (Or.inr (x_apart hKT hts inX8 tyX8 tyX8_ok nmX8 rfl 4 6 (by decide) (by decide) (by decide)))).symm
                have m4953 := m4936.trans (Wr.neI wH4938 (Or.inr (x_apart hKT hts inX8 tyX8 tyX8_ok nmX8 rfl 5 6 (by decide) (by decide) (by decide)))).symm
                have m4954 := ex4937.trans (Wr.neI wH4938 (Or.inl (G_ne ga1 ga0 (by decide)))).symm
                have m4955 := Wr.I wH4938
                have m4955 := m4955.symm
                refine lv_aload_n hx hb dX8_copyFrom_119 rfl (lv_at hl4890 0 rfl) ?_
                refine lv_aload_n hx hb dX8_copyFrom_120 rfl (lv_at hl4890 1 rfl) ?_
                refine x_gi C hTH4938 (ci := 8) (k := 7) rfl inX8 (by decide) wF_X8_30 ga1 rg_34 rfl dX8_copyFrom_121 (fun x4956 ex4956 bx4956 => ?_)
                refine x_put C hTH4938 hSH4938 (ci := 8) (k := 7) (v := .int x4956) (ty0 := tyX8) rfl inX8 tyX8_ok nmX8 (by decide) rfl wF_X8_30 ga0 rg_0 rfl rfl (okI bx4956.1 bx4956.2) rfl rfl (AE_in ga0 (by decide)) dX8_copyFrom_124 (fun H4957 locsH4957 hTH4957 hSH4957 wH4957 => ?_)
                clear f4921 f4922 f4923 m4924 m4926 m4927 m4928 m4929 m4930 m4931 m4932 m4933 m4934 m4935 m4936
                have f4958 : RFW K H4957 s.heap a0 := RFW.tr (RFW.wr hTH4938 ga0 wH4957 hap8 (by decide)) f4939
                have f4959 : BXT K H4957 s.heap a0 a1 u1.toInt := BXT.kept hT ga0 hTH4938 (fun q t hq ht => wH4957.off (G_ne hq ga0 (by first | (intro z; simp only [List.mem_cons, List.not_mem_nil, or_false] at z <;> omega) | omega))) f4940
                have f4960 : TXK K H4957 s.heap a0 a1 (12 + x4891.toNatClampNeg) := TXK.kept hT ga0 hTH4938 (fun q t hq ht => wH4957.off (G_ne hq ga0 (by first | (intro z; simp only [List.mem_cons, List.not_mem_nil, or_false] at z <;> omega) | omega))) f4941
                have m4961 := m4942.trans (Wr.neI wH4957 (Or.inr (x_apart hKT hts inX8 tyX8 tyX8_ok nmX8 rfl 1 7 (by decide) (by decide) (by decide)))).symm
                have m4962 := m4943.trans (Wr.neI wH4957 (Or.inr (x_apart hKT hts inX8 tyX8 tyX8_ok nmX8 rfl 10 7 (by decide) (by decide) (by decide)))).symm
                have m4963 := m4944.trans (Wr.neI wH4957 (Or.inr (x_apart hKT hts inX8 tyX8 tyX8_ok nmX8 rfl 13 7 (by decide) (by decide) (by decide)))).symm
                have m4964 := m4945.trans (Wr.neI wH4957 (Or.inr (x_apart hKT hts inX8 tyX8 tyX8_ok nmX8 rfl 16 7 (by decide) (by decide) (by decide)))).symm
                have m4965 := m4946.trans (Wr.neI wH4957 (Or.inl (G_ne ga1 ga0 (by decide)))).symm
                have m4966 := m4947.trans (Wr.neI wH4957 (Or.inl (G_ne ga1 ga0 (by decide)))).symm
                have m4967 := m4948.trans (Wr.neI wH4957 (Or.inl (G_ne ga1 ga0 (by decide)))).symm
                have m4968 := m4949.trans (Wr.neI wH4957 (Or.inl (G_ne ga1 ga0 (by decide)))).symm
                have m4969 := m4950.trans (Wr.neI wH4957 (Or.inl (G_ne ga1 ga0 (by decide)))).symm
                have m4970 := m4951.trans (Wr.neI wH4957 (Or.inl (G_ne ga1 ga0 (by decide)))).symm
                have m4971 := m4952.trans (Wr.neI wH4957 (Or.inr (x_apart hKT hts inX8 tyX8 tyX8_ok nmX8 rfl 4 7 (by decide) (by decide) (by decide)))).symm
                have m4972 := m4953.trans (Wr.neI wH4957 (Or.inr (x_apart hKT hts inX8 tyX8 tyX8_ok nmX8 rfl 5 7 (by decide) (by decide) (by decide)))).symm
                have m4973 := m4954.trans (Wr.neI wH4957 (Or.inl (G_ne ga1 ga0 (by decide)))).symm
                have m4974 := m4955.trans (Wr.neI wH4957 (Or.inr (x_apart hKT hts inX8 tyX8 tyX8_ok nmX8 rfl 6 7 (by decide) (by decide) (by decide)))).symm
                have m4975 := ex4956.trans (Wr.neI wH4957 (Or.inl (G_ne ga1 ga0 (by decide)))).symm
                have m4976 := Wr.I wH4957
                have m4976 := m4976.symm
                refine lv_aload_n hx hb dX8_copyFrom_127 rfl (lv_at hl4890 1 rfl) ?_
                refine x_gr C hTH4957 (ci := 8) (k := 8) rfl inX8 (by decide) wF_X8_33 ga1 rg_34 rfl dX8_copyFrom_128 (fun q4977 eq4977 gq4977 => ?_)
                replace eq4977 : @Eq Ad q4977 (fR H4957 a1 (K.1.2 8 8)) := eq4977
                refine lv_iconst (v := 0) hx hb dX8_copyFrom_131 (by decide) ?_
                refine lv_aload_n hx hb dX8_copyFrom_132 rfl (lv_at hl4890 0 rfl) ?_
                refine x_gr C hTH4957 (ci := 8) (k := 8) rfl inX8 (by decide) wF_X8_33 ga0 rg_0 rfl dX8_copyFrom_133 (fun q4978 eq4978 gq4978 => ?_)
                replace eq4978 : @Eq Ad q4978 (fR H4957 a0 (K.1.2 8 8)) := eq4978
                refine lv_iconst (v := 0) hx hb dX8_copyFrom_136 (by decide) ?_
                refine lv_bipush (v := 20) hx hb dX8_copyFrom_137 (by decide) ?_
                refine x_copy C hTH4957 hSH4957 wM_X8_70 wNT_arraycopy wST_arraycopy wIN_J10 gq4977 gq4978 rg_62 rg_28 (by decide) (by omega) (by omega) (by omega) (by show _ ≤ ((20 : Nat) : Int); omega) (by show _ ≤ ((20 : Nat) : Int); omega) (AE_in gq4978 (by decide)) hl4890.1 (by decide) dX8_copyFrom_139 (fun H4979 locsH4979 hTH4979 hSH4979 zH4979 oH4979 vH4979 wH4979 => ?_)
                have m4980 := (m4961).trans (fI_kept (oH4979 _ (G_ne ga0 gq4978 (by decide)))).symm
                have m4981 := (m4962).trans (fI_kept (oH4979 _ (G_ne ga0 gq4978 (by decide)))).symm
                have m4982 := (m4963).trans (fI_kept (oH4979 _ (G_ne ga0 gq4978 (by decide)))).symm
                have m4983 := (m4964).trans (fI_kept (oH4979 _ (G_ne ga0 gq4978 (by decide)))).symm
                have m4984 := (m4965).trans (fI_kept (oH4979 _ (G_ne ga1 gq4978 (by decide)))).symm
                have m4985 := (m4966).trans (fI_kept (oH4979 _ (G_ne ga1 gq4978 (by decide)))).symm
                have m4986 := (m4967).trans (fI_kept (oH4979 _ (G_ne ga1 gq4978 (by decide)))).symm
                have m4987 := (m4968).trans (fI_kept (oH4979 _ (G_ne ga1 gq4978 (by decide)))).symm
                have m4988 := (m4969).trans (fI_kept (oH4979 _ (G_ne ga1 gq4978 (by decide)))).symm
                have m4989 := (m4970).trans (fI_kept (oH4979 _ (G_ne ga1 gq4978 (by decide)))).symm
                have m4990 := (m4971).trans (fI_kept (oH4979 _ (G_ne ga0 gq4978 (by decide)))).symm
                have m4991 := (m4972).trans (fI_kept (oH4979 _ (G_ne ga0 gq4978 (by decide)))).symm
                have m4992 := (m4973).trans (fI_kept (oH4979 _ (G_ne ga1 gq4978 (by decide)))).symm
                have m4993 := (m4974).trans (fI_kept (oH4979 _ (G_ne ga0 gq4978 (by decide)))).symm
                have m4994 := (m4975).trans (fI_kept (oH4979 _ (G_ne ga1 gq4978 (by decide)))).symm
                have m4995 := (m4976).trans (fI_kept (oH4979 _ (G_ne ga0 gq4978 (by decide)))).symm
                have m4996 := (eq4977).trans (fR_kept (oH4979 _ (G_ne ga1 gq4978 (by decide)))).symm
                have m4997 := (eq4978).trans (fR_kept (oH4979 _ (G_ne ga0 gq4978 (by decide)))).symm
                have f4998 : RFW K H4979 s.heap a0 := RFW.tr (RFW.cell hTH4957 ga0 (fun q t hq ht => oH4979 _ (G_ne hq gq4978 (by first | (intro z; simp only [List.mem_cons, List.not_mem_nil, or_false] at z <;> omega) | omega)))) f4958
                have f4999 : BXT K H4979 s.heap a0 a1 u1.toInt := BXT.kept hT ga0 hTH4957 (fun q t hq ht => oH4979 _ (G_ne hq gq4978 (by first | (intro z; simp only [List.mem_cons, List.not_mem_nil, or_false] at z <;> omega) | omega))) f4959
                have f5000 : TXK K H4979 s.heap a0 a1 (12 + x4891.toNatClampNeg) := TXK.kept hT ga0 hTH4957 (fun q t hq ht => oH4979 _ (G_ne hq gq4978 (by first | (intro z; simp only [List.mem_cons, List.not_mem_nil, or_false] at z <;> omega) | omega))) f4960
                refine lv_aload_n hx hb dX8_copyFrom_142 rfl (lv_at hl4890 1 rfl) ?_
                refine x_gr C hTH4979 (ci := 8) (k := 9) rfl inX8 (by decide) wF_X8_37 ga1 rg_34 rfl dX8_copyFrom_143 (fun q5001 eq5001 gq5001 => ?_)
                replace eq5001 : @Eq Ad q5001 (fR H4979 a1 (K.1.2 8 9)) := eq5001
                refine lv_iconst (v := 0) hx hb dX8_copyFrom_146 (by decide) ?_
                refine lv_aload_n hx hb dX8_copyFrom_147 rfl (lv_at hl4890 0 rfl) ?_
                refine x_gr C hTH4979 (ci := 8) (k := 9) rfl inX8 (by decide) wF_X8_37 ga0 rg_0 rfl dX8_copyFrom_148 (fun q5002 eq5002 gq5002 => ?_)
                replace eq5002 : @Eq Ad q5002 (fR H4979 a0 (K.1.2 8 9)) := eq5002
                refine lv_iconst (v := 0) hx hb dX8_copyFrom_151 (by decide) ?_
                refine lv_bipush (v := 20) hx hb dX8_copyFrom_152 (by decide) ?_
                refine x_copy C hTH4979 hSH4979 wM_X8_70 wNT_arraycopy wST_arraycopy wIN_J10 gq5001 gq5002 rg_63 rg_29 (by decide) (by omega) (by omega) (by omega) (by show _ ≤ ((20 : Nat) : Int); omega) (by show _ ≤ ((20 : Nat) : Int); omega) (AE_in gq5002 (by decide)) hl4890.1 (by decide) dX8_copyFrom_154 (fun H5003 locsH5003 hTH5003 hSH5003 zH5003 oH5003 vH5003 wH5003 => ?_)
                have m5004 := (m4980).trans (fI_kept (oH5003 _ (G_ne ga0 gq5002 (by decide)))).symm
                have m5005 := (m4981).trans (fI_kept (oH5003 _ (G_ne ga0 gq5002 (by decide)))).symm
                have m5006 := (m4982).trans (fI_kept (oH5003 _ (G_ne ga0 gq5002 (by decide)))).symm
                have m5007 := (m4983).trans (fI_kept (oH5003 _ (G_ne ga0 gq5002 (by decide)))).symm
                have m5008 := (m4984).trans (fI_kept (oH5003 _ (G_ne ga1 gq5002 (by decide)))).symm
                have m5009 := (m4985).trans (fI_kept (oH5003 _ (G_ne ga1 gq5002 (by decide)))).symm
                have m5010 := (m4986).trans (fI_kept (oH5003 _ (G_ne ga1 gq5002 (by decide)))).symm
                have m5011 := (m4987).trans (fI_kept (oH5003 _ (G_ne ga1 gq5002 (by decide)))).symm
                have m5012 := (m4988).trans (fI_kept (oH5003 _ (G_ne ga1 gq5002 (by decide)))).symm
                have m5013 := (m4989).trans (fI_kept (oH5003 _ (G_ne ga1 gq5002 (by decide)))).symm
                have m5014 := (m4990).trans (fI_kept (oH5003 _ (G_ne ga0 gq5002 (by decide)))).symm
                have m5015 := (m4991).trans (fI_kept (oH5003 _ (G_ne ga0 gq5002 (by decide)))).symm
                have m5016 := (m4992).trans (fI_kept (oH5003 _ (G_ne ga1 gq5002 (by decide)))).symm
                have m5017 := (m4993).trans (fI_kept (oH5003 _ (G_ne ga0 gq5002 (by decide)))).symm
                have m5018 := (m4994).trans (fI_kept (oH5003 _ (G_ne ga1 gq5002 (by decide)))).symm
                have m5019 := (m4995).trans (fI_kept (oH5003 _ (G_ne ga0 gq5002 (by decide)))).symm
                have m5020 := (m4996).trans (fR_kept (oH5003 _ (G_ne ga1 gq5002 (by decide)))).symm
                have m5021 := (m4997).trans (fR_kept (oH5003 _ (G_ne ga0 gq5002 (by decide)))).symm
                have m5022 := (eq5001).trans (fR_kept (oH5003 _ (G_ne ga1 gq5002 (by decide)))).symm
                have m5023 := (eq5002).trans (fR_kept (oH5003 _ (G_ne ga0 gq5002 (by decide)))).symm
                have f5024 : RFW K H5003 s.heap a0 := RFW.tr (RFW.cell hTH4979 ga0 (fun q t hq ht => oH5003 _ (G_ne hq gq5002 (by first | (intro z; simp only [List.mem_cons, List.not_mem_nil, or_false] at z <;> omega) | omega)))) f4998
                have f5025 : BXT K H5003 s.heap a0 a1 u1.toInt := BXT.kept hT ga0 hTH4979 (fun q t hq ht => oH5003 _ (G_ne hq gq5002 (by first | (intro z; simp only [List.mem_cons, List.not_mem_nil, or_false] at z <;> omega) | omega))) f4999
                have f5026 : TXK K H5003 s.heap a0 a1 (12 + x4891.toNatClampNeg) := TXK.kept hT ga0 hTH4979 (fun q t hq ht => oH5003 _ (G_ne hq gq5002 (by first | (intro z; simp only [List.mem_cons, List.not_mem_nil, or_false] at z <;> omega) | omega))) f5000
                refine lv_aload_n hx hb dX8_copyFrom_157 rfl (lv_at hl4890 0 rfl) ?_
                refine lv_aload_n hx hb dX8_copyFrom_158 rfl (lv_at hl4890 1 rfl) ?_
                refine x_gi C hTH5003 (ci := 8) (k := 10) rfl inX8 (by decide) wF_X8_76 ga1 rg_34 rfl dX8_copyFrom_159 (fun x5027 ex5027 bx5027 => ?_)
                have ux5027 : u10 = x5027 := (m5011).trans ex5027.symm
                subst ux5027
                refine x_put C hTH5003 hSH5003 (ci := 8) (k := 10) (v := .int u10) (ty0 := tyX8) rfl inX8 tyX8_ok nmX8 (by decide) rfl wF_X8_76 ga0 rg_0 rfl rfl (okI (by omega) (by omega)) rfl rfl (AE_in ga0 (by decide)) dX8_copyFrom_162 (fun H5028 locsH5028 hTH5028 hSH5028 wH5028 => ?_)
                clear f4939 f4940 f4941 m4942 m4943 m4944 m4945 m4946 m4947 m4948 m4949 m4950 m4951 m4952 m4953 m4954 m4955
                have f5029 : RFW K H5028 s.heap a0 := RFW.tr (RFW.wr hTH5003 ga0 wH5028 hap8 (by decide)) f5024
                have f5030 : BXT K H5028 s.heap a0 a1 u1.toInt := BXT.kept hT ga0 hTH5003 (fun q t hq ht => wH5028.off (G_ne hq ga0 (by first | (intro z; simp only [List.mem_cons, List.not_mem_nil, or_false] at z <;> omega) | omega))) f5025
                have f5031 : TXK K H5028 s.heap a0 a1 (12 + x4891.toNatClampNeg) := TXK.kept hT ga0 hTH5003 (fun q t hq ht => wH5028.off (G_ne hq ga0 (by first | (intro z; simp only [List.mem_cons, List.not_mem_nil, or_false] at z <;> omega) | omega))) f5026
                have m5032 := m5004.trans (Wr.neI wH5028 (Or.inr (x_apart hKT hts inX8 tyX8 tyX8_ok nmX8 rfl 1 10 (by decide) (by decide) (by decide)))).symm
                have m5034 := m5006.trans (Wr.neI wH5028 (Or.inr (x_apart hKT hts inX8 tyX8 tyX8_ok nmX8 rfl 13 10 (by decide) (by decide) (by decide)))).symm
                have m5035 := m5007.trans (Wr.neI wH5028 (Or.inr (x_apart hKT hts inX8 tyX8 tyX8_ok nmX8 rfl 16 10 (by decide) (by decide) (by decide)))).symm
                have m5036 := m5008.trans (Wr.neI wH5028 (Or.inl (G_ne ga1 ga0 (by decide)))).symm
                have m5037 := m5009.trans (Wr.neI wH5028 (Or.inl (G_ne ga1 ga0 (by decide)))).symm
                have m5038 := m5010.trans (Wr.neI wH5028 (Or.inl (G_ne ga1 ga0 (by decide)))).symm
                have m5039 := m5011.trans (Wr.neI wH5028 (Or.inl (G_ne ga1 ga0 (by decide)))).symm
                have m5040 := m5012.trans (Wr.neI wH5028 (Or.inl (G_ne ga1 ga0 (by decide)))).symm
                have m5041 := m5013.trans (Wr.neI wH5028 (Or.inl (G_ne ga1 ga0 (by decide)))).symm
                have m5042 := m5014.trans (Wr.neI wH5028 (Or.inr (x_apart hKT hts inX8 tyX8 tyX8_ok nmX8 rfl 4 10 (by decide) (by decide) (by decide)))).symm
                have m5043 := m5015.trans (Wr.neI wH5028 (Or.inr (x_apart hKT hts inX8 tyX8 tyX8_ok nmX8 rfl 5 10 (by decide) (by decide) (by decide)))).symm
                have m5044 := m5016.trans (Wr.neI wH5028 (Or.inl (G_ne ga1 ga0 (by decide)))).symm
                have m5045 := m5017.trans (Wr.neI wH5028 (Or.inr (x_apart hKT hts inX8 tyX8 tyX8_ok nmX8 rfl 6 10 (by decide) (by decide) (by decide)))).symm
                have m5046 := m5018.trans (Wr.neI wH5028 (Or.inl (G_ne ga1 ga0 (by decide)))).symm
                have m5047 := m5019.trans (Wr.neI wH5028 (Or.inr (x_apart hKT hts inX8 tyX8 tyX8_ok nmX8 rfl 7 10 (by decide) (by decide) (by decide)))).symm
                have m5048 := m5020.trans (Wr.neR wH5028 (Or.inl (G_ne ga1 ga0 (by decide)))).symm
                have m5049 := m5021.trans (Wr.neR wH5028 (Or.inr (x_apart hKT hts inX8 tyX8 tyX8_ok nmX8 rfl 8 10 (by decide) (by decide) (by decide)))).symm
                have m5050 := m5022.trans (Wr.neR wH5028 (Or.inl (G_ne ga1 ga0 (by decide)))).symm
                have m5051 := m5023.trans (Wr.neR wH5028 (Or.inr (x_apart hKT hts inX8 tyX8 tyX8_ok nmX8 rfl 9 10 (by decide) (by decide) (by decide)))).symm
                have m5052 := Wr.I wH5028
                have m5052 := m5052.symm
                refine lv_aload_n hx hb dX8_copyFrom_165 rfl (lv_at hl4890 1 rfl) ?_
                refine x_gr C hTH5028 (ci := 8) (k := 11) rfl inX8 (by decide) wF_X8_40 ga1 rg_34 rfl dX8_copyFrom_166 (fun q5053 eq5053 gq5053 => ?_)
                replace eq5053 : @Eq Ad q5053 (fR H5028 a1 (K.1.2 8 11)) := eq5053
                refine lv_iconst (v := 0) hx hb dX8_copyFrom_169 (by decide) ?_
                refine lv_aload_n hx hb dX8_copyFrom_170 rfl (lv_at hl4890 0 rfl) ?_
                refine x_gr C hTH5028 (ci := 8) (k := 11) rfl inX8 (by decide) wF_X8_40 ga0 rg_0 rfl dX8_copyFrom_171 (fun q5054 eq5054 gq5054 => ?_)
                replace eq5054 : @Eq Ad q5054 (fR H5028 a0 (K.1.2 8 11)) := eq5054
                refine lv_iconst (v := 0) hx hb dX8_copyFrom_174 (by decide) ?_
                refine lv_bipush (v := 8) hx hb dX8_copyFrom_175 (by decide) ?_
                refine x_copy C hTH5028 hSH5028 wM_X8_70 wNT_arraycopy wST_arraycopy wIN_J10 gq5053 gq5054 rg_64 rg_30 (by decide) (by omega) (by omega) (by omega) (by show _ ≤ ((8 : Nat) : Int); omega) (by show _ ≤ ((8 : Nat) : Int); omega) (AE_in gq5054 (by decide)) hl4890.1 (by decide) dX8_copyFrom_177 (fun H5055 locsH5055 hTH5055 hSH5055 zH5055 oH5055 vH5055 wH5055 => ?_)
                have m5056 := (m5032).trans (fI_kept (oH5055 _ (G_ne ga0 gq5054 (by decide)))).symm
                have m5057 := (m5034).trans (fI_kept (oH5055 _ (G_ne ga0 gq5054 (by decide)))).symm
                have m5058 := (m5035).trans (fI_kept (oH5055 _ (G_ne ga0 gq5054 (by decide)))).symm
                have m5059 := (m5036).trans (fI_kept (oH5055 _ (G_ne ga1 gq5054 (by decide)))).symm
                have m5060 := (m5037).trans (fI_kept (oH5055 _ (G_ne ga1 gq5054 (by decide)))).symm
                have m5061 := (m5038).trans (fI_kept (oH5055 _ (G_ne ga1 gq5054 (by decide)))).symm
                have m5062 := (m5039).trans (fI_kept (oH5055 _ (G_ne ga1 gq5054 (by decide)))).symm
                have m5063 := (m5040).trans (fI_kept (oH5055 _ (G_ne ga1 gq5054 (by decide)))).symm
                have m5064 := (m5041).trans (fI_kept (oH5055 _ (G_ne ga1 gq5054 (by decide)))).symm
                have m5065 := (m5042).trans (fI_kept (oH5055 _ (G_ne ga0 gq5054 (by decide)))).symm
                have m5066 := (m5043).trans (fI_kept (oH5055 _ (G_ne ga0 gq5054 (by decide)))).symm
                have m5067 := (m5044).trans (fI_kept (oH5055 _ (G_ne ga1 gq5054 (by decide)))).symm
                have m5068 := (m5045).trans (fI_kept (oH5055 _ (G_ne ga0 gq5054 (by decide)))).symm
                have m5069 := (m5046).trans (fI_kept (oH5055 _ (G_ne ga1 gq5054 (by decide)))).symm
                have m5070 := (m5047).trans (fI_kept (oH5055 _ (G_ne ga0 gq5054 (by decide)))).symm
                have m5071 := (m5048).trans (fR_kept (oH5055 _ (G_ne ga1 gq5054 (by decide)))).symm
                have m5072 := (m5049).trans (fR_kept (oH5055 _ (G_ne ga0 gq5054 (by decide)))).symm
                have m5073 := (m5050).trans (fR_kept (oH5055 _ (G_ne ga1 gq5054 (by decide)))).symm
                have m5074 := (m5051).trans (fR_kept (oH5055 _ (G_ne ga0 gq5054 (by decide)))).symm
                have m5075 := (m5052).trans (fI_kept (oH5055 _ (G_ne ga0 gq5054 (by decide)))).symm
                have m5076 := (eq5053).trans (fR_kept (oH5055 _ (G_ne ga1 gq5054 (by decide)))).symm
                have m5077 := (eq5054).trans (fR_kept (oH5055 _ (G_ne ga0 gq5054 (by decide)))).symm
                have f5078 : RFW K H5055 s.heap a0 := RFW.tr (RFW.cell hTH5028 ga0 (fun q t hq ht => oH5055 _ (G_ne hq gq5054 (by first | (intro z; simp only [List.mem_cons, List.not_mem_nil, or_false] at z <;> omega) | omega)))) f5029
                have f5079 : BXT K H5055 s.heap a0 a1 u1.toInt := BXT.kept hT ga0 hTH5028 (fun q t hq ht => oH5055 _ (G_ne hq gq5054 (by first | (intro z; simp only [List.mem_cons, List.not_mem_nil, or_false] at z <;> omega) | omega))) f5030
                have f5080 : TXK K H5055 s.heap a0 a1 (12 + x4891.toNatClampNeg) := TXK.kept hT ga0 hTH5028 (fun q t hq ht => oH5055 _ (G_ne hq gq5054 (by first | (intro z; simp only [List.mem_cons, List.not_mem_nil, or_false] at z <;> omega) | omega))) f5031
                refine lv_aload_n hx hb dX8_copyFrom_180 rfl (lv_at hl4890 1 rfl) ?_
                refine x_gr C hTH5055 (ci := 8) (k := 12) rfl inX8 (by decide) wF_X8_43 ga1 rg_34 rfl dX8_copyFrom_181 (fun q5081 eq5081 gq5081 => ?_)
                replace eq5081 : @Eq Ad q5081 (fR H5055 a1 (K.1.2 8 12)) := eq5081
                refine lv_iconst (v := 0) hx hb dX8_copyFrom_184 (by decide) ?_
                refine lv_aload_n hx hb dX8_copyFrom_185 rfl (lv_at hl4890 0 rfl) ?_
                refine x_gr C hTH5055 (ci := 8) (k := 12) rfl inX8 (by decide) wF_X8_43 ga0 rg_0 rfl dX8_copyFrom_186 (fun q5082 eq5082 gq5082 => ?_)
                replace eq5082 : @Eq Ad q5082 (fR H5055 a0 (K.1.2 8 12)) := eq5082
                refine lv_iconst (v := 0) hx hb dX8_copyFrom_189 (by decide) ?_
                refine lv_bipush (v := 8) hx hb dX8_copyFrom_190 (by decide) ?_
                refine x_copy C hTH5055 hSH5055 wM_X8_70 wNT_arraycopy wST_arraycopy wIN_J10 gq5081 gq5082 rg_65 rg_31 (by decide) (by omega) (by omega) (by omega) (by show _ ≤ ((8 : Nat) : Int); omega) (by show _ ≤ ((8 : Nat) : Int); omega) (AE_in gq5082 (by decide)) hl4890.1 (by decide) dX8_copyFrom_192 (fun H5083 locsH5083 hTH5083 hSH5083 zH5083 oH5083 vH5083 wH5083 => ?_)
                have m5084 := (m5056).trans (fI_kept (oH5083 _ (G_ne ga0 gq5082 (by decide)))).symm
                have m5085 := (m5057).trans (fI_kept (oH5083 _ (G_ne ga0 gq5082 (by decide)))).symm
                have m5086 := (m5058).trans (fI_kept (oH5083 _ (G_ne ga0 gq5082 (by decide)))).symm
                have m5087 := (m5059).trans (fI_kept (oH5083 _ (G_ne ga1 gq5082 (by decide)))).symm
                have m5088 := (m5060).trans (fI_kept (oH5083 _ (G_ne ga1 gq5082 (by decide)))).symm
                have m5089 := (m5061).trans (fI_kept (oH5083 _ (G_ne ga1 gq5082 (by decide)))).symm
                have m5090 := (m5062).trans (fI_kept (oH5083 _ (G_ne ga1 gq5082 (by decide)))).symm
                have m5091 := (m5063).trans (fI_kept (oH5083 _ (G_ne ga1 gq5082 (by decide)))).symm
                have m5092 := (m5064).trans (fI_kept (oH5083 _ (G_ne ga1 gq5082 (by decide)))).symm
                have m5093 := (m5065).trans (fI_kept (oH5083 _ (G_ne ga0 gq5082 (by decide)))).symm
                have m5094 := (m5066).trans (fI_kept (oH5083 _ (G_ne ga0 gq5082 (by decide)))).symm
                have m5095 := (m5067).trans (fI_kept (oH5083 _ (G_ne ga1 gq5082 (by decide)))).symm
                have m5096 := (m5068).trans (fI_kept (oH5083 _ (G_ne ga0 gq5082 (by decide)))).symm
                have m5097 := (m5069).trans (fI_kept (oH5083 _ (G_ne ga1 gq5082 (by decide)))).symm
                have m5098 := (m5070).trans (fI_kept (oH5083 _ (G_ne ga0 gq5082 (by decide)))).symm
                have m5099 := (m5071).trans (fR_kept (oH5083 _ (G_ne ga1 gq5082 (by decide)))).symm
                have m5100 := (m5072).trans (fR_kept (oH5083 _ (G_ne ga0 gq5082 (by decide)))).symm
                have m5101 := (m5073).trans (fR_kept (oH5083 _ (G_ne ga1 gq5082 (by decide)))).symm
                have m5102 := (m5074).trans (fR_kept (oH5083 _ (G_ne ga0 gq5082 (by decide)))).symm
                have m5103 := (m5075).trans (fI_kept (oH5083 _ (G_ne ga0 gq5082 (by decide)))).symm
                have m5104 := (m5076).trans (fR_kept (oH5083 _ (G_ne ga1 gq5082 (by decide)))).symm
                have m5105 := (m5077).trans (fR_kept (oH5083 _ (G_ne ga0 gq5082 (by decide)))).symm
                have m5106 := (eq5081).trans (fR_kept (oH5083 _ (G_ne ga1 gq5082 (by decide)))).symm
                have m5107 := (eq5082).trans (fR_kept (oH5083 _ (G_ne ga0 gq5082 (by decide)))).symm
                have f5108 : RFW K H5083 s.heap a0 := RFW.tr (RFW.cell hTH5055 ga0 (fun q t hq ht => oH5083 _ (G_ne hq gq5082 (by first | (intro z; simp only [List.mem_cons, List.not_mem_nil, or_false] at z <;> omega) | omega)))) f5078
                have f5109 : BXT K H5083 s.heap a0 a1 u1.toInt := BXT.kept hT ga0 hTH5055 (fun q t hq ht => oH5083 _ (G_ne hq gq5082 (by first | (intro z; simp only [List.mem_cons, List.not_mem_nil, or_false] at z <;> omega) | omega))) f5079
                have f5110 : TXK K H5083 s.heap a0 a1 (12 + x4891.toNatClampNeg) := TXK.kept hT ga0 hTH5055 (fun q t hq ht => oH5083 _ (G_ne hq gq5082 (by first | (intro z; simp only [List.mem_cons, List.not_mem_nil, or_false] at z <;> omega) | omega))) f5080
                refine lv_aload_n hx hb dX8_copyFrom_195 rfl (lv_at hl4890 0 rfl) ?_
                refine lv_aload_n hx hb dX8_copyFrom_196 rfl (lv_at hl4890 1 rfl) ?_
                refine x_gi C hTH5083 (ci := 8) (k := 13) rfl inX8 (by decide) wF_X8_79 ga1 rg_34 rfl dX8_copyFrom_197 (fun x5111 ex5111 bx5111 => ?_)
                have ux5111 : u13 = x5111 := (m5091).trans ex5111.symm
                subst ux5111
                refine x_put C hTH5083 hSH5083 (ci := 8) (k := 13) (v := .int u13) (ty0 := tyX8) rfl inX8 tyX8_ok nmX8 (by decide) rfl wF_X8_79 ga0 rg_0 rfl rfl (okI (by omega) (by omega)) rfl rfl (AE_in ga0 (by decide)) dX8_copyFrom_200 (fun H5112 locsH5112 hTH5112 hSH5112 wH5112 => ?_)
                clear f5024 f5025 f5026 m5004 m5005 m5006 m5007 m5008 m5009 m5010 m5011 m5012 m5013 m5014 m5015 m5016 m5017 m5018 m5019 m5020 m5021 m5022 m5023
                have f5113 : RFW K H5112 s.heap a0 := RFW.tr (RFW.wr hTH5083 ga0 wH5112 hap8 (by decide)) f5108
                have f5114 : BXT K H5112 s.heap a0 a1 u1.toInt := BXT.kept hT ga0 hTH5083 (fun q t hq ht => wH5112.off (G_ne hq ga0 (by first | (intro z; simp only [List.mem_cons, List.not_mem_nil, or_false] at z <;> omega) | omega))) f5109
                have f5115 : TXK K H5112 s.heap a0 a1 (12 + x4891.toNatClampNeg) := TXK.kept hT ga0 hTH5083 (fun q t hq ht => wH5112.off (G_ne hq ga0 (by first | (intro z; simp only [List.mem_cons, List.not_mem_nil, or_false] at z <;> omega) | omega))) f5110
                have m5116 := m5084.trans (Wr.neI wH5112 (Or.inr (x_apart hKT hts inX8 tyX8 tyX8_ok nmX8 rfl 1 13 (by decide) (by decide) (by decide)))).symm
                have m5118 := m5086.trans (Wr.neI wH5112 (Or.inr (x_apart hKT hts inX8 tyX8 tyX8_ok nmX8 rfl 16 13 (by decide) (by decide) (by decide)))).symm
                have m5119 := m5087.trans (Wr.neI wH5112 (Or.inl (G_ne ga1 ga0 (by decide)))).symm
                have m5120 := m5088.trans (Wr.neI wH5112 (Or.inl (G_ne ga1 ga0 (by decide)))).symm
                have m5121 := m5089.trans (Wr.neI wH5112 (Or.inl (G_ne ga1 ga0 (by decide)))).symm
                have m5122 := m5090.trans (Wr.neI wH5112 (Or.inl (G_ne ga1 ga0 (by decide)))).symm
                have m5123 := m5091.trans (Wr.neI wH5112 (Or.inl (G_ne ga1 ga0 (by decide)))).symm
                have m5124 := m5092.trans (Wr.neI wH5112 (Or.inl (G_ne ga1 ga0 (by decide)))).symm
                have m5125 := m5093.trans (Wr.neI wH5112 (Or.inr (x_apart hKT hts inX8 tyX8 tyX8_ok nmX8 rfl 4 13 (by decide) (by decide) (by decide)))).symm
                have m5126 := m5094.trans (Wr.neI wH5112 (Or.inr (x_apart hKT hts inX8 tyX8 tyX8_ok nmX8 rfl 5 13 (by decide) (by decide) (by decide)))).symm
                have m5127 := m5095.trans (Wr.neI wH5112 (Or.inl (G_ne ga1 ga0 (by decide)))).symm
                have m5128 := m5096.trans (Wr.neI wH5112 (Or.inr (x_apart hKT hts inX8 tyX8 tyX8_ok nmX8 rfl 6 13 (by decide) (by decide) (by decide)))).symm
                have m5129 := m5097.trans (Wr.neI wH5112 (Or.inl (G_ne ga1 ga0 (by decide)))).symm
                have m5130 := m5098.trans (Wr.neI wH5112 (Or.inr (x_apart hKT hts inX8 tyX8 tyX8_ok nmX8 rfl 7 13 (by decide) (by decide) (by decide)))).symm
                have m5131 := m5099.trans (Wr.neR wH5112 (Or.inl (G_ne ga1 ga0 (by decide)))).symm
                have m5132 := m5100.trans (Wr.neR wH5112 (Or.inr (x_apart hKT hts inX8 tyX8 tyX8_ok nmX8 rfl 8 13 (by decide) (by decide) (by decide)))).symm
                have m5133 := m5101.trans (Wr.neR wH5112 (Or.inl (G_ne ga1 ga0 (by decide)))).symm
                have m5134 := m5102.trans (Wr.neR wH5112 (Or.inr (x_apart hKT hts inX8 tyX8 tyX8_ok nmX8 rfl 9 13 (by decide) (by decide) (by decide)))).symm
                have m5135 := m5103.trans (Wr.neI wH5112 (Or.inr (x_apart hKT hts inX8 tyX8 tyX8_ok nmX8 rfl 10 13 (by decide) (by decide) (by decide)))).symm
                have m5136 := m5104.trans (Wr.neR wH5112 (Or.inl (G_ne ga1 ga0 (by decide)))).symm
                have m5137 := m5105.trans (Wr.neR wH5112 (Or.inr (x_apart hKT hts inX8 tyX8 tyX8_ok nmX8 rfl 11 13 (by decide) (by decide) (by decide)))).symm
                have m5138 := m5106.trans (Wr.neR wH5112 (Or.inl (G_ne ga1 ga0 (by decide)))).symm
                have m5139 := m5107.trans (Wr.neR wH5112 (Or.inr (x_apart hKT hts inX8 tyX8 tyX8_ok nmX8 rfl 12 13 (by decide) (by decide) (by decide)))).symm
                have m5140 := Wr.I wH5112
                have m5140 := m5140.symm
                refine lv_aload_n hx hb dX8_copyFrom_203 rfl (lv_at hl4890 1 rfl) ?_
                refine x_gr C hTH5112 (ci := 8) (k := 14) rfl inX8 (by decide) wF_X8_46 ga1 rg_34 rfl dX8_copyFrom_204 (fun q5141 eq5141 gq5141 => ?_)
                replace eq5141 : @Eq Ad q5141 (fR H5112 a1 (K.1.2 8 14)) := eq5141
                refine lv_iconst (v := 0) hx hb dX8_copyFrom_207 (by decide) ?_
                refine lv_aload_n hx hb dX8_copyFrom_208 rfl (lv_at hl4890 0 rfl) ?_
                refine x_gr C hTH5112 (ci := 8) (k := 14) rfl inX8 (by decide) wF_X8_46 ga0 rg_0 rfl dX8_copyFrom_209 (fun q5142 eq5142 gq5142 => ?_)
                replace eq5142 : @Eq Ad q5142 (fR H5112 a0 (K.1.2 8 14)) := eq5142
                refine lv_iconst (v := 0) hx hb dX8_copyFrom_212 (by decide) ?_
                refine lv_bipush (v := 8) hx hb dX8_copyFrom_213 (by decide) ?_
                refine x_copy C hTH5112 hSH5112 wM_X8_70 wNT_arraycopy wST_arraycopy wIN_J10 gq5141 gq5142 rg_66 rg_32 (by decide) (by omega) (by omega) (by omega) (by show _ ≤ ((8 : Nat) : Int); omega) (by show _ ≤ ((8 : Nat) : Int); omega) (AE_in gq5142 (by decide)) hl4890.1 (by decide) dX8_copyFrom_215 (fun H5143 locsH5143 hTH5143 hSH5143 zH5143 oH5143 vH5143 wH5143 => ?_)
                have m5144 := (m5116).trans (fI_kept (oH5143 _ (G_ne ga0 gq5142 (by decide)))).symm
                have m5145 := (m5118).trans (fI_kept (oH5143 _ (G_ne ga0 gq5142 (by decide)))).symm
                have m5146 := (m5119).trans (fI_kept (oH5143 _ (G_ne ga1 gq5142 (by decide)))).symm
                have m5147 := (m5120).trans (fI_kept (oH5143 _ (G_ne ga1 gq5142 (by decide)))).symm
                have m5148 := (m5121).trans (fI_kept (oH5143 _ (G_ne ga1 gq5142 (by decide)))).symm
                have m5149 := (m5122).trans (fI_kept (oH5143 _ (G_ne ga1 gq5142 (by decide)))).symm
                have m5150 := (m5123).trans (fI_kept (oH5143 _ (G_ne ga1 gq5142 (by decide)))).symm
                have m5151 := (m5124).trans (fI_kept (oH5143 _ (G_ne ga1 gq5142 (by decide)))).symm
                have m5152 := (m5125).trans (fI_kept (oH5143 _ (G_ne ga0 gq5142 (by decide)))).symm
                have m5153 := (m5126).trans (fI_kept (oH5143 _ (G_ne ga0 gq5142 (by decide)))).symm
                have m5154 := (m5127).trans (fI_kept (oH5143 _ (G_ne ga1 gq5142 (by decide)))).symm
                have m5155 := (m5128).trans (fI_kept (oH5143 _ (G_ne ga0 gq5142 (by decide)))).symm
                have m5156 := (m5129).trans (fI_kept (oH5143 _ (G_ne ga1 gq5142 (by decide)))).symm
                have m5157 := (m5130).trans (fI_kept (oH5143 _ (G_ne ga0 gq5142 (by decide)))).symm
                have m5158 := (m5131).trans (fR_kept (oH5143 _ (G_ne ga1 gq5142 (by decide)))).symm
                have m5159 := (m5132).trans (fR_kept (oH5143 _ (G_ne ga0 gq5142 (by decide)))).symm
                have m5160 := (m5133).trans (fR_kept (oH5143 _ (G_ne ga1 gq5142 (by decide)))).symm
                have m5161 := (m5134).trans (fR_kept (oH5143 _ (G_ne ga0 gq5142 (by decide)))).symm
                have m5162 := (m5135).trans (fI_kept (oH5143 _ (G_ne ga0 gq5142 (by decide)))).symm
                have m5163 := (m5136).trans (fR_kept (oH5143 _ (G_ne ga1 gq5142 (by decide)))).symm
                have m5164 := (m5137).trans (fR_kept (oH5143 _ (G_ne ga0 gq5142 (by decide)))).symm
                have m5165 := (m5138).trans (fR_kept (oH5143 _ (G_ne ga1 gq5142 (by decide)))).symm
                have m5166 := (m5139).trans (fR_kept (oH5143 _ (G_ne ga0 gq5142 (by decide)))).symm
                have m5167 := (m5140).trans (fI_kept (oH5143 _ (G_ne ga0 gq5142 (by decide)))).symm
                have m5168 := (eq5141).trans (fR_kept (oH5143 _ (G_ne ga1 gq5142 (by decide)))).symm
                have m5169 := (eq5142).trans (fR_kept (oH5143 _ (G_ne ga0 gq5142 (by decide)))).symm
                have f5170 : RFW K H5143 s.heap a0 := RFW.tr (RFW.cell hTH5112 ga0 (fun q t hq ht => oH5143 _ (G_ne hq gq5142 (by first | (intro z; simp only [List.mem_cons, List.not_mem_nil, or_false] at z <;> omega) | omega)))) f5113
                have f5171 : BXT K H5143 s.heap a0 a1 u1.toInt := BXT.kept hT ga0 hTH5112 (fun q t hq ht => oH5143 _ (G_ne hq gq5142 (by first | (intro z; simp only [List.mem_cons, List.not_mem_nil, or_false] at z <;> omega) | omega))) f5114
                have f5172 : TXK K H5143 s.heap a0 a1 (12 + x4891.toNatClampNeg) := TXK.kept hT ga0 hTH5112 (fun q t hq ht => oH5143 _ (G_ne hq gq5142 (by first | (intro z; simp only [List.mem_cons, List.not_mem_nil, or_false] at z <;> omega) | omega))) f5115
                refine lv_aload_n hx hb dX8_copyFrom_218 rfl (lv_at hl4890 1 rfl) ?_
                refine x_gr C hTH5143 (ci := 8) (k := 15) rfl inX8 (by decide) wF_X8_49 ga1 rg_34 rfl dX8_copyFrom_219 (fun q5173 eq5173 gq5173 => ?_)
                replace eq5173 : @Eq Ad q5173 (fR H5143 a1 (K.1.2 8 15)) := eq5173
                refine lv_iconst (v := 0) hx hb dX8_copyFrom_222 (by decide) ?_
                refine lv_aload_n hx hb dX8_copyFrom_223 rfl (lv_at hl4890 0 rfl) ?_
                refine x_gr C hTH5143 (ci := 8) (k := 15) rfl inX8 (by decide) wF_X8_49 ga0 rg_0 rfl dX8_copyFrom_224 (fun q5174 eq5174 gq5174 => ?_)
                replace eq5174 : @Eq Ad q5174 (fR H5143 a0 (K.1.2 8 15)) := eq5174
                refine lv_iconst (v := 0) hx hb dX8_copyFrom_227 (by decide) ?_
                refine lv_bipush (v := 8) hx hb dX8_copyFrom_228 (by decide) ?_
                refine x_copy C hTH5143 hSH5143 wM_X8_70 wNT_arraycopy wST_arraycopy wIN_J10 gq5173 gq5174 rg_67 rg_33 (by decide) (by omega) (by omega) (by omega) (by show _ ≤ ((8 : Nat) : Int); omega) (by show _ ≤ ((8 : Nat) : Int); omega) (AE_in gq5174 (by decide)) hl4890.1 (by decide) dX8_copyFrom_230 (fun H5175 locsH5175 hTH5175 hSH5175 zH5175 oH5175 vH5175 wH5175 => ?_)
                have m5176 := (m5144).trans (fI_kept (oH5175 _ (G_ne ga0 gq5174 (by decide)))).symm
                have m5177 := (m5145).trans (fI_kept (oH5175 _ (G_ne ga0 gq5174 (by decide)))).symm
                have m5178 := (m5146).trans (fI_kept (oH5175 _ (G_ne ga1 gq5174 (by decide)))).symm
                have m5179 := (m5147).trans (fI_kept (oH5175 _ (G_ne ga1 gq5174 (by decide)))).symm
                have m5180 := (m5148).trans (fI_kept (oH5175 _ (G_ne ga1 gq5174 (by decide)))).symm
                have m5181 := (m5149).trans (fI_kept (oH5175 _ (G_ne ga1 gq5174 (by decide)))).symm
                have m5182 := (m5150).trans (fI_kept (oH5175 _ (G_ne ga1 gq5174 (by decide)))).symm
                have m5183 := (m5151).trans (fI_kept (oH5175 _ (G_ne ga1 gq5174 (by decide)))).symm
                have m5184 := (m5152).trans (fI_kept (oH5175 _ (G_ne ga0 gq5174 (by decide)))).symm
                have m5185 := (m5153).trans (fI_kept (oH5175 _ (G_ne ga0 gq5174 (by decide)))).symm
                have m5186 := (m5154).trans (fI_kept (oH5175 _ (G_ne ga1 gq5174 (by decide)))).symm
                have m5187 := (m5155).trans (fI_kept (oH5175 _ (G_ne ga0 gq5174 (by decide)))).symm
                have m5188 := (m5156).trans (fI_kept (oH5175 _ (G_ne ga1 gq5174 (by decide)))).symm
                have m5189 := (m5157).trans (fI_kept (oH5175 _ (G_ne ga0 gq5174 (by decide)))).symm
                have m5190 := (m5158).trans (fR_kept (oH5175 _ (G_ne ga1 gq5174 (by decide)))).symm
                have m5191 := (m5159).trans (fR_kept (oH5175 _ (G_ne ga0 gq5174 (by decide)))).symm
                have m5192 := (m5160).trans (fR_kept (oH5175 _ (G_ne ga1 gq5174 (by decide)))).symm
                have m5193 := (m5161).trans (fR_kept (oH5175 _ (G_ne ga0 gq5174 (by decide)))).symm
                have m5194 := (m5162).trans (fI_kept (oH5175 _ (G_ne ga0 gq5174 (by decide)))).symm
                have m5195 := (m5163).trans (fR_kept (oH5175 _ (G_ne ga1 gq5174 (by decide)))).symm
                have m5196 := (m5164).trans (fR_kept (oH5175 _ (G_ne ga0 gq5174 (by decide)))).symm
                have m5197 := (m5165).trans (fR_kept (oH5175 _ (G_ne ga1 gq5174 (by decide)))).symm
                have m5198 := (m5166).trans (fR_kept (oH5175 _ (G_ne ga0 gq5174 (by decide)))).symm
                have m5199 := (m5167).trans (fI_kept (oH5175 _ (G_ne ga0 gq5174 (by decide)))).symm
                have m5200 := (m5168).trans (fR_kept (oH5175 _ (G_ne ga1 gq5174 (by decide)))).symm
                have m5201 := (m5169).trans (fR_kept (oH5175 _ (G_ne ga0 gq5174 (by decide)))).symm
                have m5202 := (eq5173).trans (fR_kept (oH5175 _ (G_ne ga1 gq5174 (by decide)))).symm
                have m5203 := (eq5174).trans (fR_kept (oH5175 _ (G_ne ga0 gq5174 (by decide)))).symm
                have f5204 : RFW K H5175 s.heap a0 := RFW.tr (RFW.cell hTH5143 ga0 (fun q t hq ht => oH5175 _ (G_ne hq gq5174 (by first | (intro z; simp only [List.mem_cons, List.not_mem_nil, or_false] at z <;> omega) | omega)))) f5170
                have f5205 : BXT K H5175 s.heap a0 a1 u1.toInt := BXT.kept hT ga0 hTH5143 (fun q t hq ht => oH5175 _ (G_ne hq gq5174 (by first | (intro z; simp only [List.mem_cons, List.not_mem_nil, or_false] at z <;> omega) | omega))) f5171
                have f5206 : TXK K H5175 s.heap a0 a1 (12 + x4891.toNatClampNeg) := TXK.kept hT ga0 hTH5143 (fun q t hq ht => oH5175 _ (G_ne hq gq5174 (by first | (intro z; simp only [List.mem_cons, List.not_mem_nil, or_false] at z <;> omega) | omega))) f5172
                refine lv_aload_n hx hb dX8_copyFrom_233 rfl (lv_at hl4890 0 rfl) ?_
                refine lv_aload_n hx hb dX8_copyFrom_234 rfl (lv_at hl4890 1 rfl) ?_
                refine x_gi C hTH5175 (ci := 8) (k := 16) rfl inX8 (by decide) wF_X8_82 ga1 rg_34 rfl dX8_copyFrom_235 (fun x5207 ex5207 bx5207 => ?_)
                have ux5207 : u16 = x5207 := (m5183).trans ex5207.symm
                subst ux5207
                refine x_put C hTH5175 hSH5175 (ci := 8) (k := 16) (v := .int u16) (ty0 := tyX8) rfl inX8 tyX8_ok nmX8 (by decide) rfl wF_X8_82 ga0 rg_0 rfl rfl (okI (by omega) (by omega)) rfl rfl (AE_in ga0 (by decide)) dX8_copyFrom_238 (fun H5208 locsH5208 hTH5208 hSH5208 wH5208 => ?_)
                clear f5108 f5109 f5110 m5084 m5085 m5086 m5087 m5088 m5089 m5090 m5091 m5092 m5093 m5094 m5095 m5096 m5097 m5098 m5099 m5100 m5101 m5102 m5103 m5104 m5105 m5106 m5107
                have f5209 : RFW K H5208 s.heap a0 := RFW.tr (RFW.wr hTH5175 ga0 wH5208 hap8 (by decide)) f5204
                have f5210 : BXT K H5208 s.heap a0 a1 u1.toInt := BXT.kept hT ga0 hTH5175 (fun q t hq ht => wH5208.off (G_ne hq ga0 (by first | (intro z; simp only [List.mem_cons, List.not_mem_nil, or_false] at z <;> omega) | omega))) f5205
                have f5211 : TXK K H5208 s.heap a0 a1 (12 + x4891.toNatClampNeg) := TXK.kept hT ga0 hTH5175 (fun q t hq ht => wH5208.off (G_ne hq ga0 (by first | (intro z; simp only [List.mem_cons, List.not_mem_nil, or_false] at z <;> omega) | omega))) f5206
                have m5212 := m5176.trans (Wr.neI wH5208 (Or.inr (x_apart hKT hts inX8 tyX8 tyX8_ok nmX8 rfl 1 16 (by decide) (by decide) (by decide)))).symm
                have m5214 := m5178.trans (Wr.neI wH5208 (Or.inl (G_ne ga1 ga0 (by decide)))).symm
                have m5215 := m5179.trans (Wr.neI wH5208 (Or.inl (G_ne ga1 ga0 (by decide)))).symm
                have m5216 := m5180.trans (Wr.neI wH5208 (Or.inl (G_ne ga1 ga0 (by decide)))).symm
                have m5217 := m5181.trans (Wr.neI wH5208 (Or.inl (G_ne ga1 ga0 (by decide)))).symm
                have m5218 := m5182.trans (Wr.neI wH5208 (Or.inl (G_ne ga1 ga0 (by decide)))).symm
                have m5219 := m5183.trans (Wr.neI wH5208 (Or.inl (G_ne ga1 ga0 (by decide)))).symm
                have m5220 := m5184.trans (Wr.neI wH5208 (Or.inr (x_apart hKT hts inX8 tyX8 tyX8_ok nmX8 rfl 4 16 (by decide) (by decide) (by decide)))).symm
                have m5221 := m5185.trans (Wr.neI wH5208 (Or.inr (x_apart hKT hts inX8 tyX8 tyX8_ok nmX8 rfl 5 16 (by decide) (by decide) (by decide)))).symm
                have m5222 := m5186.trans (Wr.neI wH5208 (Or.inl (G_ne ga1 ga0 (by decide)))).symm
                have m5223 := m5187.trans (Wr.neI wH5208 (Or.inr (x_apart hKT hts inX8 tyX8 tyX8_ok nmX8 rfl 6 16 (by decide) (by decide) (by decide)))).symm
                have m5224 := m5188.trans (Wr.neI wH5208 (Or.inl (G_ne ga1 ga0 (by decide)))).symm
                have m5225 := m5189.trans (Wr.neI wH5208 (Or.inr (x_apart hKT hts inX8 tyX8 tyX8_ok nmX8 rfl 7 16 (by decide) (by decide) (by decide)))).symm
                have m5226 := m5190.trans (Wr.neR wH5208 (Or.inl (G_ne ga1 ga0 (by decide)))).symm
                have m5227 := m5191.trans (Wr.neR wH5208 (Or.inr (x_apart hKT hts inX8 tyX8 tyX8_ok nmX8 rfl 8 16 (by decide) (by decide) (by decide)))).symm
                have m5228 := m5192.trans (Wr.neR wH5208 (Or.inl (G_ne ga1 ga0 (by decide)))).symm
                have m5229 := m5193.trans (Wr.neR wH5208 (Or.inr (x_apart hKT hts inX8 tyX8 tyX8_ok nmX8 rfl 9 16 (by decide) (by decide) (by decide)))).symm
                have m5230 := m5194.trans (Wr.neI wH5208 (Or.inr (x_apart hKT hts inX8 tyX8 tyX8_ok nmX8 rfl 10 16 (by decide) (by decide) (by decide)))).symm
                have m5231 := m5195.trans (Wr.neR wH5208 (Or.inl (G_ne ga1 ga0 (by decide)))).symm
                have m5232 := m5196.trans (Wr.neR wH5208 (Or.inr (x_apart hKT hts inX8 tyX8 tyX8_ok nmX8 rfl 11 16 (by decide) (by decide) (by decide)))).symm
                have m5233 := m5197.trans (Wr.neR wH5208 (Or.inl (G_ne ga1 ga0 (by decide)))).symm
                have m5234 := m5198.trans (Wr.neR wH5208 (Or.inr (x_apart hKT hts inX8 tyX8 tyX8_ok nmX8 rfl 12 16 (by decide) (by decide) (by decide)))).symm
                have m5235 := m5199.trans (Wr.neI wH5208 (Or.inr (x_apart hKT hts inX8 tyX8 tyX8_ok nmX8 rfl 13 16 (by decide) (by decide) (by decide)))).symm
                have m5236 := m5200.trans (Wr.neR wH5208 (Or.inl (G_ne ga1 ga0 (by decide)))).symm
                have m5237 := m5201.trans (Wr.neR wH5208 (Or.inr (x_apart hKT hts inX8 tyX8 tyX8_ok nmX8 rfl 14 16 (by decide) (by decide) (by decide)))).symm
                have m5238 := m5202.trans (Wr.neR wH5208 (Or.inl (G_ne ga1 ga0 (by decide)))).symm
                have m5239 := m5203.trans (Wr.neR wH5208 (Or.inr (x_apart hKT hts inX8 tyX8 tyX8_ok nmX8 rfl 15 16 (by decide) (by decide) (by decide)))).symm
                have m5240 := Wr.I wH5208
                have m5240 := m5240.symm
                exact x_vret C hQ dX8_copyFrom_241 hSH5208 (by decide) (by decide) (⟨x4892, u4, u5, u10, u13, u16, rfl, m5212, m5220, m5221, m5230, m5235, m5240, by omega, f5209, (IMX.ofK (BXT.cast f5210 (by omega)) (TXK.cast f5211 (by omega)) f5209 hT ga1 (fun q t hq ht => x_lt hT hSH5208.2.1 hq (by first | (intro z; simp only [List.mem_cons, List.not_mem_nil, or_false] at z <;> omega) | omega))), hTH5208⟩)
              · have k4900 := i_nle c4899
                refine lv_aload_n hx hb dX8_copyFrom_74 rfl (lv_at hl4890 0 rfl) ?_
                refine x_gr C hTH4888 (ci := 8) (k := 3) rfl inX8 (by decide) wF_X8_23 ga0 rg_0 rfl dX8_copyFrom_75 (fun q5241 eq5241 gq5241 => ?_)
                replace eq5241 : @Eq Ad q5241 (fR H4888 a0 (K.1.2 8 3)) := eq5241
                refine lv_iload_n hx hb dX8_copyFrom_78 rfl (lv_at hl4890 2 rfl) ?_
                refine x_ar C hTH4888 rfl rfl gq5241 rg_27 ⟨bx4891.1, by show _ < ((4 : Nat) : Int); omega⟩ dX8_copyFrom_79 (fun q5242 eq5242 gq5242 => ?_)
                replace eq5242 : @Eq Ad q5242 (fR H4888 q5241 (x4891 : Int32).toNatClampNeg) := eq5242
                refine lv_aload_n hx hb dX8_copyFrom_80 rfl (lv_at hl4890 1 rfl) ?_
                refine x_gr C hTH4888 (ci := 8) (k := 3) rfl inX8 (by decide) wF_X8_23 ga1 rg_34 rfl dX8_copyFrom_81 (fun q5243 eq5243 gq5243 => ?_)
                replace eq5243 : @Eq Ad q5243 (fR H4888 a1 (K.1.2 8 3)) := eq5243
                refine lv_iload_n hx hb dX8_copyFrom_84 rfl (lv_at hl4890 2 rfl) ?_
                refine x_ar C hTH4888 rfl rfl gq5243 rg_61 ⟨bx4891.1, by show _ < ((4 : Nat) : Int); omega⟩ dX8_copyFrom_85 (fun q5244 eq5244 gq5244 => ?_)
                replace eq5244 : @Eq Ad q5244 (fR H4888 q5243 (x4891 : Int32).toNatClampNeg) := eq5244
                obtain ⟨q5245, eq5245⟩ : ∃ z : Nat, @Eq Ad z (fR H4888 q5242 (K.1.2 7 1)) := ⟨_, rfl⟩
                have gq5245 := ty_fr (q := q5245) (k := 1) (u := 17) eq5245 hTH4888 gq5242 rg_16 rfl
                obtain ⟨q5246, eq5246⟩ : ∃ z : Nat, @Eq Ad z (fR H4888 q5242 (K.1.2 7 2)) := ⟨_, rfl⟩
                have gq5246 := ty_fr (q := q5246) (k := 2) (u := 18) eq5246 hTH4888 gq5242 rg_16 rfl
                obtain ⟨q5247, eq5247⟩ : ∃ z : Nat, @Eq Ad z (fR H4888 q5242 (K.1.2 7 3)) := ⟨_, rfl⟩
                have gq5247 := ty_fr (q := q5247) (k := 3) (u := 19) eq5247 hTH4888 gq5242 rg_16 rfl
                obtain ⟨q5248, eq5248⟩ : ∃ z : Nat, @Eq Ad z (fR H4888 q5242 (K.1.2 7 4)) := ⟨_, rfl⟩
                have gq5248 := ty_fr (q := q5248) (k := 4) (u := 20) eq5248 hTH4888 gq5242 rg_16 rfl
                obtain ⟨q5249, eq5249⟩ : ∃ z : Nat, @Eq Ad z (fR H4888 q5242 (K.1.2 7 5)) := ⟨_, rfl⟩
                have gq5249 := ty_fr (q := q5249) (k := 5) (u := 21) eq5249 hTH4888 gq5242 rg_16 rfl
                obtain ⟨q5250, eq5250⟩ : ∃ z : Nat, @Eq Ad z (fR H4888 q5242 (K.1.2 7 6)) := ⟨_, rfl⟩
                have gq5250 := ty_fr (q := q5250) (k := 6) (u := 22) eq5250 hTH4888 gq5242 rg_16 rfl
                obtain ⟨q5251, eq5251⟩ : ∃ z : Nat, @Eq Ad z (fR H4888 q5242 (K.1.2 7 7)) := ⟨_, rfl⟩
                have gq5251 := ty_fr (q := q5251) (k := 7) (u := 23) eq5251 hTH4888 gq5242 rg_16 rfl
                obtain ⟨q5252, eq5252⟩ : ∃ z : Nat, @Eq Ad z (fR H4888 q5242 (K.1.2 7 8)) := ⟨_, rfl⟩
                have gq5252 := ty_fr (q := q5252) (k := 8) (u := 24) eq5252 hTH4888 gq5242 rg_16 rfl
                obtain ⟨q5253, eq5253⟩ : ∃ z : Nat, @Eq Ad z (fR H4888 q5244 (K.1.2 7 1)) := ⟨_, rfl⟩
                have gq5253 := ty_fr (q := q5253) (k := 1) (u := 51) eq5253 hTH4888 gq5244 rg_50 rfl
                obtain ⟨q5254, eq5254⟩ : ∃ z : Nat, @Eq Ad z (fR H4888 q5244 (K.1.2 7 2)) := ⟨_, rfl⟩
                have gq5254 := ty_fr (q := q5254) (k := 2) (u := 52) eq5254 hTH4888 gq5244 rg_50 rfl
                obtain ⟨q5255, eq5255⟩ : ∃ z : Nat, @Eq Ad z (fR H4888 q5244 (K.1.2 7 3)) := ⟨_, rfl⟩
                have gq5255 := ty_fr (q := q5255) (k := 3) (u := 53) eq5255 hTH4888 gq5244 rg_50 rfl
                obtain ⟨q5256, eq5256⟩ : ∃ z : Nat, @Eq Ad z (fR H4888 q5244 (K.1.2 7 4)) := ⟨_, rfl⟩
                have gq5256 := ty_fr (q := q5256) (k := 4) (u := 54) eq5256 hTH4888 gq5244 rg_50 rfl
                obtain ⟨q5257, eq5257⟩ : ∃ z : Nat, @Eq Ad z (fR H4888 q5244 (K.1.2 7 5)) := ⟨_, rfl⟩
                have gq5257 := ty_fr (q := q5257) (k := 5) (u := 55) eq5257 hTH4888 gq5244 rg_50 rfl
                obtain ⟨q5258, eq5258⟩ : ∃ z : Nat, @Eq Ad z (fR H4888 q5244 (K.1.2 7 6)) := ⟨_, rfl⟩
                have gq5258 := ty_fr (q := q5258) (k := 6) (u := 56) eq5258 hTH4888 gq5244 rg_50 rfl
                obtain ⟨q5259, eq5259⟩ : ∃ z : Nat, @Eq Ad z (fR H4888 q5244 (K.1.2 7 7)) := ⟨_, rfl⟩
                have gq5259 := ty_fr (q := q5259) (k := 7) (u := 57) eq5259 hTH4888 gq5244 rg_50 rfl
                obtain ⟨q5260, eq5260⟩ : ∃ z : Nat, @Eq Ad z (fR H4888 q5244 (K.1.2 7 8)) := ⟨_, rfl⟩
                have gq5260 := ty_fr (q := q5260) (k := 8) (u := 58) eq5260 hTH4888 gq5244 rg_50 rfl
                obtain ⟨x5261, ex5261⟩ : ∃ z : Int32, z = fI H4888 q5242 (K.1.2 7 0) := ⟨_, rfl⟩
                have bx5261 := ty_fi (x := x5261) (k := 0) ex5261 hTH4888 gq5242 rg_16 rfl
                obtain ⟨x5262, ex5262⟩ : ∃ z : Int32, z = fI H4888 q5242 (K.1.2 7 9) := ⟨_, rfl⟩
                have bx5262 := ty_fi (x := x5262) (k := 9) ex5262 hTH4888 gq5242 rg_16 rfl
                obtain ⟨x5263, ex5263⟩ : ∃ z : Int32, z = fI H4888 q5244 (K.1.2 7 0) := ⟨_, rfl⟩
                have bx5263 := ty_fi (x := x5263) (k := 0) ex5263 hTH4888 gq5244 rg_50 rfl
                obtain ⟨x5264, ex5264⟩ : ∃ z : Int32, z = fI H4888 q5244 (K.1.2 7 9) := ⟨_, rfl⟩
                have bx5264 := ty_fi (x := x5264) (k := 9) ex5264 hTH4888 gq5244 rg_50 rfl
                refine x_V (As := [.ref q5244]) (rest := []) C (a_X7_copyFrom_gn l K G H4888 (x5261) (x5262) (x5263) (x5264) hTH4888 gq5242 gq5244 gq5245 eq5245 gq5246 eq5246 gq5247 eq5247 gq5248 eq5248 gq5249 eq5249 gq5250 eq5250 gq5251 eq5251 gq5252 eq5252 gq5253 eq5253 gq5254 eq5254 gq5255 eq5255 gq5256 eq5256 gq5257 eq5257 gq5258 eq5258 gq5259 eq5259 gq5260 eq5260 ex5261 ex5262 ex5263 ex5264) yo_X7_copyFrom wM_X8_64 ⟨⟨by decide, by decide⟩, by decide, by decide⟩ (x_rv C hTH4888 (ci := 7) rfl gq5242 rg_16) rfl hl4890.1 rfl (Nat.le_of_ble_eq_true rfl) dX8_copyFrom_86 hSH4888 (AE_sub (fun _ _ => rfl) (by decide) hSH4888.1) (fun vH5265 H5265 locsH5265 pH5265 zH5265 kH5265 hSH5265 => ?_)
                obtain ⟨x5266, x5267, hvH5265, ex5266, ex5267, hrH5265, m5268, m5269, m5270, m5271, m5272, m5273, m5274, m5275, m5276, m5277, m5278, m5279, m5280, m5281, m5282, m5283, m5284, hTH5265⟩ := pH5265
                subst hvH5265
                have f5285 : BXT K H5265 s.heap a0 a1 u1.toInt := BXT.kept hT ga0 hTH4888 (fun q t hq ht => x_lt hTH4888 kH5265 hq (by first | (intro z; simp only [List.mem_cons, List.not_mem_nil, or_false] at z <;> omega) | omega)) fy4898_bx
                have m5286 := (ex4892).trans (fI_kept (x_lt hTH4888 kH5265 ga0 (by decide))).symm
                have m5287 := (ex4893).trans (fI_kept (x_lt hTH4888 kH5265 ga0 (by decide))).symm
                have m5288 := (ex4894).trans (fI_kept (x_lt hTH4888 kH5265 ga0 (by decide))).symm
                have m5289 := (ex4895).trans (fI_kept (x_lt hTH4888 kH5265 ga0 (by decide))).symm
                have m5290 := (ex4896).trans (fI_kept (x_lt hTH4888 kH5265 ga0 (by decide))).symm
                have m5291 := (ex4897).trans (fI_kept (x_lt hTH4888 kH5265 ga0 (by decide))).symm
                have m5292 := (cy4898_0).trans (fI_kept (x_lt hTH4888 kH5265 ga1 (by decide))).symm
                have m5293 := (cy4898_1).trans (fI_kept (x_lt hTH4888 kH5265 ga1 (by decide))).symm
                have m5294 := (cy4898_2).trans (fI_kept (x_lt hTH4888 kH5265 ga1 (by decide))).symm
                have m5295 := (cy4898_3).trans (fI_kept (x_lt hTH4888 kH5265 ga1 (by decide))).symm
                have m5296 := (cy4898_4).trans (fI_kept (x_lt hTH4888 kH5265 ga1 (by decide))).symm
                have m5297 := (cy4898_5).trans (fI_kept (x_lt hTH4888 kH5265 ga1 (by decide))).symm
                have m5298 := (eq5241).trans (fR_kept (x_lt hTH4888 kH5265 ga0 (by decide))).symm
                have m5299 := (eq5243).trans (fR_kept (x_lt hTH4888 kH5265 ga1 (by decide))).symm
                have m5300 := (eq5253).trans (fR_kept (x_lt hTH4888 kH5265 gq5244 (by decide))).symm
                have m5301 := (eq5254).trans (fR_kept (x_lt hTH4888 kH5265 gq5244 (by decide))).symm
                have m5302 := (eq5255).trans (fR_kept (x_lt hTH4888 kH5265 gq5244 (by decide))).symm
                have m5303 := (eq5256).trans (fR_kept (x_lt hTH4888 kH5265 gq5244 (by decide))).symm
                have m5304 := (eq5257).trans (fR_kept (x_lt hTH4888 kH5265 gq5244 (by decide))).symm
                have m5305 := (eq5258).trans (fR_kept (x_lt hTH4888 kH5265 gq5244 (by decide))).symm
                have m5306 := (eq5259).trans (fR_kept (x_lt hTH4888 kH5265 gq5244 (by decide))).symm
                have m5307 := (eq5260).trans (fR_kept (x_lt hTH4888 kH5265 gq5244 (by decide))).symm
                have m5308 := (ex5263).trans (fI_kept (x_lt hTH4888 kH5265 gq5244 (by decide))).symm
                have m5309 := (ex5264).trans (fI_kept (x_lt hTH4888 kH5265 gq5244 (by decide))).symm
                have bx5266 := ty_fi (x := x5266) (k := 0) ex5266 hTH5265 gq5242 rg_16 rfl
                have bx5267 := ty_fi (x := x5267) (k := 9) ex5267 hTH5265 gq5242 rg_16 rfl
                have cn_x4891 := i_cl (x := x4891) bx4891.1
                have own_ : OWN K H4888 a0 := hy0.st fy4898_rw
                have hL_ : x4891.toNatClampNeg < 4 := by omega
                have ed_ : ow K s.heap a0 (12 + x4891.toNatClampNeg) = q5242 := by rw [← RFW.wo fy4898_rw (by omega), ow_j, ← eq5241, ← eq5242]
                have es_ : ow K s.heap a1 (12 + x4891.toNatClampNeg) = q5244 := by rw [← RFW.wo (RFW.cellK hT ga1 (fun q t hq ht => x_lt hT hSH4888.2.1 hq (by first | (intro z; simp only [List.mem_cons, List.not_mem_nil, or_false] at z <;> omega) | omega))) (by omega), ow_j, ← eq5243, ← eq5244]
                have edp_ : ow K H4888 a0 (12 + x4891.toNatClampNeg) = q5242 := (RFW.wo fy4898_rw (by omega)).trans ed_
                have cpx_ : CPX K H5265 H4888 q5242 q5244 := ⟨by rw [← ex5266, ← ex5263]; exact Int32.toInt_inj.mp hrH5265.1, by rw [← ex5267, ← ex5264]; exact Int32.toInt_inj.mp hrH5265.2, fun k h1 h7 => by have hk7 : k = 1 ∨ k = 2 ∨ k = 3 ∨ k = 4 ∨ k = 5 ∨ k = 6 ∨ k = 7 := (by omega); rcases hk7 with rfl | rfl | rfl | rfl | rfl | rfl | rfl; exact (by rw [← m5268, ← eq5253]; exact m5276); exact (by rw [← m5269, ← eq5254]; exact m5277); exact (by rw [← m5270, ← eq5255]; exact m5278); exact (by rw [← m5271, ← eq5256]; exact m5279); exact (by rw [← m5272, ← eq5257]; exact m5280); exact (by rw [← m5273, ← eq5258]; exact m5281); exact (by rw [← m5274, ← eq5259]; exact m5282), by rw [← ex5264, ← m5275, ← eq5260]; exact m5283⟩
                have tx5310 : TXK K H5265 s.heap a0 a1 ((12 + x4891.toNatClampNeg) + 1) := TXK.go (TXK.cast fy4898_tx (by omega)) (by omega) rfl ed_ es_ (tx_sK hT gq5244 (fun q t hq ht => x_lt hT hSH4888.2.1 hq (by first | (intro z; simp only [List.mem_cons, List.not_mem_nil, or_false] at z <;> omega) | omega)) cpx_) (fun l_ h1 h2 z => by have hz := oth_t own_ hTH4888 ga0 (i := l_) (by omega) (j := (12 + x4891.toNatClampNeg)) (by omega) (by omega) edp_ (fun q t hq ht n0 nk => m5284 q t hq n0 (by rw [eq5245]; exact nk 1 (by decide)) (by rw [eq5246]; exact nk 2 (by decide)) (by rw [eq5247]; exact nk 3 (by decide)) (by rw [eq5248]; exact nk 4 (by decide)) (by rw [eq5249]; exact nk 5 (by decide)) (by rw [eq5250]; exact nk 6 (by decide)) (by rw [eq5251]; exact nk 7 (by decide)) (by rw [eq5252]; exact nk 8 (by decide))); rw [RFW.wo fy4898_rw (by omega)] at hz; exact z.later hz.1 hz.2)
                have rw5311 : RFW K H5265 s.heap a0 := RFW.tr ⟨fun k hk => fR_kept (x_lt hTH4888 kH5265 ga0 (by decide)), fun k i hk => (by rcases hk with ⟨rfl, _⟩ | ⟨rfl, _⟩ | ⟨rfl, _⟩; exact fR_kept (x_lt hTH4888 kH5265 (ty_fr (q := _) (k := 0) (u := 25) rfl hTH4888 ga0 rg_0 rfl) (by decide)); exact fR_kept (x_lt hTH4888 kH5265 (ty_fr (q := _) (k := 2) (u := 26) rfl hTH4888 ga0 rg_0 rfl) (by decide)); exact fR_kept (x_lt hTH4888 kH5265 (ty_fr (q := _) (k := 3) (u := 27) rfl hTH4888 ga0 rg_0 rfl) (by decide))), fun i hi => RFB.cell (x_lt hTH4888 kH5265 (ow_g hTH4888 ga0 hi) (by decide)), fun i h1 h2 => (if e : i = (12 + x4891.toNatClampNeg) then (by rw [e, edp_]; exact (fun k h1 h8 => by have hk8 : k = 1 ∨ k = 2 ∨ k = 3 ∨ k = 4 ∨ k = 5 ∨ k = 6 ∨ k = 7 ∨ k = 8 := (by omega); rcases hk8 with rfl | rfl | rfl | rfl | rfl | rfl | rfl | rfl; exact (m5268).symm.trans eq5245; exact (m5269).symm.trans eq5246; exact (m5270).symm.trans eq5247; exact (m5271).symm.trans eq5248; exact (m5272).symm.trans eq5249; exact (m5273).symm.trans eq5250; exact (m5274).symm.trans eq5251; exact (m5275).symm.trans eq5252)) else RFT.cell (oth_t own_ hTH4888 ga0 ⟨h1, h2⟩ (j := (12 + x4891.toNatClampNeg)) (by omega) e edp_ (fun q t hq ht n0 nk => m5284 q t hq n0 (by rw [eq5245]; exact nk 1 (by decide)) (by rw [eq5246]; exact nk 2 (by decide)) (by rw [eq5247]; exact nk 3 (by decide)) (by rw [eq5248]; exact nk 4 (by decide)) (by rw [eq5249]; exact nk 5 (by decide)) (by rw [eq5250]; exact nk 6 (by decide)) (by rw [eq5251]; exact nk 7 (by decide)) (by rw [eq5252]; exact nk 8 (by decide)))).1)⟩ fy4898_rw
                refine W.eq (g2 := F0 m 89 ls4889 []) rfl ?_
                obtain ⟨x5312, ex5312⟩ : ∃ y : Int32, y = x4891 + 1 := ⟨_, rfl⟩
                have tx5312 := i_add ex5312 (by omega)
                refine lv_iinc (v := x5312) (lv' := [(2, .int x5312), (0, .ref a0), (1, .ref a1)]) hx hb dX8_copyFrom_89 hl4890 (k := 2) rfl (by rw [ex5312]; rfl) (by decide) rfl (fun ls5313 hl5314 => ?_)
                refine lv_goto (tgt := 69) hx hb dX8_copyFrom_92 (by decide) ?_
                have cn_x5312 := i_cl (x := x5312) (by omega)
                have c00_ : (0 : Int32).toNatClampNeg = 0 := rfl
                have c00_ : (0 : Int32).toNatClampNeg = 0 := rfl
                exact ih69 ls5313 H5265 locsH5265 (x5312) (x4892) (x4893) (x4894) (x4895) (x4896) (x4897) (lv_sub hl5314 [1, 2, 0] rfl) hTH5265 hSH5265 (by have := i_rng x5312; omega) bx4892 bx4893 bx4895 bx4896 bx4897 m5286 m5287 m5288 m5289 m5290 m5291 m5292 m5293 m5294 m5295 m5296 m5297 rw5311 (BXT.cast f5285 (by omega)) (TXK.cast tx5310 (by omega)) (by omega) (by omega)
          refine lv_iload_n hx hb dX8_copyFrom_41 rfl (lv_at hl4879 2 rfl) ?_
          refine lv_iconst (v := 2) hx hb dX8_copyFrom_42 (by decide) ?_
          refine lv_icmp_ge (tgt := 67) hx hb dX8_copyFrom_43 (by decide) (fun c5315 => ?_) (fun c5315 => ?_)
          · have k5316 := i_le c5315
            have cl_ := i_cl (x := x4880) (by omega)
            refine lv_iconst (v := 0) hx hb dX8_copyFrom_67 (by decide) ?_
            refine lv_istore_n (lv' := [(2, .int 0), (0, .ref a0), (1, .ref a1)]) hx hb dX8_copyFrom_68 rfl hl4879 (by decide) rfl (fun ls5317 hl5318 => ?_)
            have c00_ : (0 : Int32).toNatClampNeg = 0 := rfl
            have c00_ : (0 : Int32).toNatClampNeg = 0 := rfl
            exact J69 ((4 - (0 : Int32).toInt).toNat + 1) ls5317 H4877 locsH4877 (0) (x4881) (x4882) (x4883) (x4884) (x4885) (x4886) (lv_sub hl5318 [1, 2, 0] rfl) hTH4877 hSH4877 (by decide) bx4881 bx4882 bx4884 bx4885 bx4886 ex4881 ex4882 ex4883 ex4884 ex4885 ex4886 cy4887_0 cy4887_1 cy4887_2 cy4887_3 cy4887_4 cy4887_5 fy4887_rw (BXT.cast fy4887_bx (by omega)) (TXK.cast fy4887_tx (by omega)) (by omega) (by omega)
          · have k5316 := i_nle c5315
            refine lv_aload_n hx hb dX8_copyFrom_46 rfl (lv_at hl4879 0 rfl) ?_
            refine x_gr C hTH4877 (ci := 8) (k := 2) rfl inX8 (by decide) wF_X8_19 ga0 rg_0 rfl dX8_copyFrom_47 (fun q5319 eq5319 gq5319 => ?_)
            replace eq5319 : @Eq Ad q5319 (fR H4877 a0 (K.1.2 8 2)) := eq5319
            refine lv_iload_n hx hb dX8_copyFrom_50 rfl (lv_at hl4879 2 rfl) ?_
            refine x_ar C hTH4877 rfl rfl gq5319 rg_26 ⟨bx4880.1, by show _ < ((2 : Nat) : Int); omega⟩ dX8_copyFrom_51 (fun q5320 eq5320 gq5320 => ?_)
            replace eq5320 : @Eq Ad q5320 (fR H4877 q5319 (x4880 : Int32).toNatClampNeg) := eq5320
            refine lv_aload_n hx hb dX8_copyFrom_52 rfl (lv_at hl4879 1 rfl) ?_
            refine x_gr C hTH4877 (ci := 8) (k := 2) rfl inX8 (by decide) wF_X8_19 ga1 rg_34 rfl dX8_copyFrom_53 (fun q5321 eq5321 gq5321 => ?_)
            replace eq5321 : @Eq Ad q5321 (fR H4877 a1 (K.1.2 8 2)) := eq5321
            refine lv_iload_n hx hb dX8_copyFrom_56 rfl (lv_at hl4879 2 rfl) ?_
            refine x_ar C hTH4877 rfl rfl gq5321 rg_60 ⟨bx4880.1, by show _ < ((2 : Nat) : Int); omega⟩ dX8_copyFrom_57 (fun q5322 eq5322 gq5322 => ?_)
            replace eq5322 : @Eq Ad q5322 (fR H4877 q5321 (x4880 : Int32).toNatClampNeg) := eq5322
            obtain ⟨q5323, eq5323⟩ : ∃ z : Nat, @Eq Ad z (fR H4877 q5320 (K.1.2 7 1)) := ⟨_, rfl⟩
            have gq5323 := ty_fr (q := q5323) (k := 1) (u := 17) eq5323 hTH4877 gq5320 rg_16 rfl
            obtain ⟨q5324, eq5324⟩ : ∃ z : Nat, @Eq Ad z (fR H4877 q5320 (K.1.2 7 2)) := ⟨_, rfl⟩
            have gq5324 := ty_fr (q := q5324) (k := 2) (u := 18) eq5324 hTH4877 gq5320 rg_16 rfl
            obtain ⟨q5325, eq5325⟩ : ∃ z : Nat, @Eq Ad z (fR H4877 q5320 (K.1.2 7 3)) := ⟨_, rfl⟩
            have gq5325 := ty_fr (q := q5325) (k := 3) (u := 19) eq5325 hTH4877 gq5320 rg_16 rfl
            obtain ⟨q5326, eq5326⟩ : ∃ z : Nat, @Eq Ad z (fR H4877 q5320 (K.1.2 7 4)) := ⟨_, rfl⟩
            have gq5326 := ty_fr (q := q5326) (k := 4) (u := 20) eq5326 hTH4877 gq5320 rg_16 rfl
            obtain ⟨q5327, eq5327⟩ : ∃ z : Nat, @Eq Ad z (fR H4877 q5320 (K.1.2 7 5)) := ⟨_, rfl⟩
            have gq5327 := ty_fr (q := q5327) (k := 5) (u := 21) eq5327 hTH4877 gq5320 rg_16 rfl
            obtain ⟨q5328, eq5328⟩ : ∃ z : Nat, @Eq Ad z (fR H4877 q5320 (K.1.2 7 6)) := ⟨_, rfl⟩
            have gq5328 := ty_fr (q := q5328) (k := 6) (u := 22) eq5328 hTH4877 gq5320 rg_16 rfl
            obtain ⟨q5329, eq5329⟩ : ∃ z : Nat, @Eq Ad z (fR H4877 q5320 (K.1.2 7 7)) := ⟨_, rfl⟩
            have gq5329 := ty_fr (q := q5329) (k := 7) (u := 23) eq5329 hTH4877 gq5320 rg_16 rfl
            obtain ⟨q5330, eq5330⟩ : ∃ z : Nat, @Eq Ad z (fR H4877 q5320 (K.1.2 7 8)) := ⟨_, rfl⟩
            have gq5330 := ty_fr (q := q5330) (k := 8) (u := 24) eq5330 hTH4877 gq5320 rg_16 rfl
            obtain ⟨q5331, eq5331⟩ : ∃ z : Nat, @Eq Ad z (fR H4877 q5322 (K.1.2 7 1)) := ⟨_, rfl⟩
            have gq5331 := ty_fr (q := q5331) (k := 1) (u := 51) eq5331 hTH4877 gq5322 rg_50 rfl
            obtain ⟨q5332, eq5332⟩ : ∃ z : Nat, @Eq Ad z (fR H4877 q5322 (K.1.2 7 2)) := ⟨_, rfl⟩
            have gq5332 := ty_fr (q := q5332) (k := 2) (u := 52) eq5332 hTH4877 gq5322 rg_50 rfl
            obtain ⟨q5333, eq5333⟩ : ∃ z : Nat, @Eq Ad z (fR H4877 q5322 (K.1.2 7 3)) := ⟨_, rfl⟩
            have gq5333 := ty_fr (q := q5333) (k := 3) (u := 53) eq5333 hTH4877 gq5322 rg_50 rfl
            obtain ⟨q5334, eq5334⟩ : ∃ z : Nat, @Eq Ad z (fR H4877 q5322 (K.1.2 7 4)) := ⟨_, rfl⟩
            have gq5334 := ty_fr (q := q5334) (k := 4) (u := 54) eq5334 hTH4877 gq5322 rg_50 rfl
            obtain ⟨q5335, eq5335⟩ : ∃ z : Nat, @Eq Ad z (fR H4877 q5322 (K.1.2 7 5)) := ⟨_, rfl⟩
            have gq5335 := ty_fr (q := q5335) (k := 5) (u := 55) eq5335 hTH4877 gq5322 rg_50 rfl
            obtain ⟨q5336, eq5336⟩ : ∃ z : Nat, @Eq Ad z (fR H4877 q5322 (K.1.2 7 6)) := ⟨_, rfl⟩
            have gq5336 := ty_fr (q := q5336) (k := 6) (u := 56) eq5336 hTH4877 gq5322 rg_50 rfl
            obtain ⟨q5337, eq5337⟩ : ∃ z : Nat, @Eq Ad z (fR H4877 q5322 (K.1.2 7 7)) := ⟨_, rfl⟩
            have gq5337 := ty_fr (q := q5337) (k := 7) (u := 57) eq5337 hTH4877 gq5322 rg_50 rfl
            obtain ⟨q5338, eq5338⟩ : ∃ z : Nat, @Eq Ad z (fR H4877 q5322 (K.1.2 7 8)) := ⟨_, rfl⟩
            have gq5338 := ty_fr (q := q5338) (k := 8) (u := 58) eq5338 hTH4877 gq5322 rg_50 rfl
            obtain ⟨x5339, ex5339⟩ : ∃ z : Int32, z = fI H4877 q5320 (K.1.2 7 0) := ⟨_, rfl⟩
            have bx5339 := ty_fi (x := x5339) (k := 0) ex5339 hTH4877 gq5320 rg_16 rfl
            obtain ⟨x5340, ex5340⟩ : ∃ z : Int32, z = fI H4877 q5320 (K.1.2 7 9) := ⟨_, rfl⟩
            have bx5340 := ty_fi (x := x5340) (k := 9) ex5340 hTH4877 gq5320 rg_16 rfl
            obtain ⟨x5341, ex5341⟩ : ∃ z : Int32, z = fI H4877 q5322 (K.1.2 7 0) := ⟨_, rfl⟩
            have bx5341 := ty_fi (x := x5341) (k := 0) ex5341 hTH4877 gq5322 rg_50 rfl
            obtain ⟨x5342, ex5342⟩ : ∃ z : Int32, z = fI H4877 q5322 (K.1.2 7 9) := ⟨_, rfl⟩
            have bx5342 := ty_fi (x := x5342) (k := 9) ex5342 hTH4877 gq5322 rg_50 rfl
            refine x_V (As := [.ref q5322]) (rest := []) C (a_X7_copyFrom_gn l K G H4877 (x5339) (x5340) (x5341) (x5342) hTH4877 gq5320 gq5322 gq5323 eq5323 gq5324 eq5324 gq5325 eq5325 gq5326 eq5326 gq5327 eq5327 gq5328 eq5328 gq5329 eq5329 gq5330 eq5330 gq5331 eq5331 gq5332 eq5332 gq5333 eq5333 gq5334 eq5334 gq5335 eq5335 gq5336 eq5336 gq5337 eq5337 gq5338 eq5338 ex5339 ex5340 ex5341 ex5342) yo_X7_copyFrom wM_X8_64 ⟨⟨by decide, by decide⟩, by decide, by decide⟩ (x_rv C hTH4877 (ci := 7) rfl gq5320 rg_16) rfl hl4879.1 rfl (Nat.le_of_ble_eq_true rfl) dX8_copyFrom_58 hSH4877 (AE_sub (fun _ _ => rfl) (by decide) hSH4877.1) (fun vH5343 H5343 locsH5343 pH5343 zH5343 kH5343 hSH5343 => ?_)
            obtain ⟨x5344, x5345, hvH5343, ex5344, ex5345, hrH5343, m5346, m5347, m5348, m5349, m5350, m5351, m5352, m5353, m5354, m5355, m5356, m5357, m5358, m5359, m5360, m5361, m5362, hTH5343⟩ := pH5343
            subst hvH5343
            have f5363 : BXT K H5343 s.heap a0 a1 u1.toInt := BXT.kept hT ga0 hTH4877 (fun q t hq ht => x_lt hTH4877 kH5343 hq (by first | (intro z; simp only [List.mem_cons, List.not_mem_nil, or_false] at z <;> omega) | omega)) fy4887_bx
            have m5364 := (ex4881).trans (fI_kept (x_lt hTH4877 kH5343 ga0 (by decide))).symm
            have m5365 := (ex4882).trans (fI_kept (x_lt hTH4877 kH5343 ga0 (by decide))).symm
            have m5366 := (ex4883).trans (fI_kept (x_lt hTH4877 kH5343 ga0 (by decide))).symm
            have m5367 := (ex4884).trans (fI_kept (x_lt hTH4877 kH5343 ga0 (by decide))).symm
            have m5368 := (ex4885).trans (fI_kept (x_lt hTH4877 kH5343 ga0 (by decide))).symm
            have m5369 := (ex4886).trans (fI_kept (x_lt hTH4877 kH5343 ga0 (by decide))).symm
            have m5370 := (cy4887_0).trans (fI_kept (x_lt hTH4877 kH5343 ga1 (by decide))).symm
            have m5371 := (cy4887_1).trans (fI_kept (x_lt hTH4877 kH5343 ga1 (by decide))).symm
            have m5372 := (cy4887_2).trans (fI_kept (x_lt hTH4877 kH5343 ga1 (by decide))).symm
            have m5373 := (cy4887_3).trans (fI_kept (x_lt hTH4877 kH5343 ga1 (by decide))).symm
            have m5374 := (cy4887_4).trans (fI_kept (x_lt hTH4877 kH5343 ga1 (by decide))).symm
            have m5375 := (cy4887_5).trans (fI_kept (x_lt hTH4877 kH5343 ga1 (by decide))).symm
            have m5376 := (eq5319).trans (fR_kept (x_lt hTH4877 kH5343 ga0 (by decide))).symm
            have m5377 := (eq5321).trans (fR_kept (x_lt hTH4877 kH5343 ga1 (by decide))).symm
            have m5378 := (eq5331).trans (fR_kept (x_lt hTH4877 kH5343 gq5322 (by decide))).symm
            have m5379 := (eq5332).trans (fR_kept (x_lt hTH4877 kH5343 gq5322 (by decide))).symm
            have m5380 := (eq5333).trans (fR_kept (x_lt hTH4877 kH5343 gq5322 (by decide))).symm
            have m5381 := (eq5334).trans (fR_kept (x_lt hTH4877 kH5343 gq5322 (by decide))).symm
            have m5382 := (eq5335).trans (fR_kept (x_lt hTH4877 kH5343 gq5322 (by decide))).symm
            have m5383 := (eq5336).trans (fR_kept (x_lt hTH4877 kH5343 gq5322 (by decide))).symm
            have m5384 := (eq5337).trans (fR_kept (x_lt hTH4877 kH5343 gq5322 (by decide))).symm
            have m5385 := (eq5338).trans (fR_kept (x_lt hTH4877 kH5343 gq5322 (by decide))).symm
            have m5386 := (ex5341).trans (fI_kept (x_lt hTH4877 kH5343 gq5322 (by decide))).symm
            have m5387 := (ex5342).trans (fI_kept (x_lt hTH4877 kH5343 gq5322 (by decide))).symm
            have bx5344 := ty_fi (x := x5344) (k := 0) ex5344 hTH5343 gq5320 rg_16 rfl
            have bx5345 := ty_fi (x := x5345) (k := 9) ex5345 hTH5343 gq5320 rg_16 rfl
            have cn_x4880 := i_cl (x := x4880) bx4880.1
            have own_ : OWN K H4877 a0 := hy0.st fy4887_rw
            have hL_ : x4880.toNatClampNeg < 2 := by omega
            have ed_ : ow K s.heap a0 (10 + x4880.toNatClampNeg) = q5320 := by rw [← RFW.wo fy4887_rw (by omega), ow_l hL_, ← eq5319, ← eq5320]
            have es_ : ow K s.heap a1 (10 + x4880.toNatClampNeg) = q5322 := by rw [← RFW.wo (RFW.cellK hT ga1 (fun q t hq ht => x_lt hT hSH4877.2.1 hq (by first | (intro z; simp only [List.mem_cons, List.not_mem_nil, or_false] at z <;> omega) | omega))) (by omega), ow_l hL_, ← eq5321, ← eq5322]
            have edp_ : ow K H4877 a0 (10 + x4880.toNatClampNeg) = q5320 := (RFW.wo fy4887_rw (by omega)).trans ed_
            have cpx_ : CPX K H5343 H4877 q5320 q5322 := ⟨by rw [← ex5344, ← ex5341]; exact Int32.toInt_inj.mp hrH5343.1, by rw [← ex5345, ← ex5342]; exact Int32.toInt_inj.mp hrH5343.2, fun k h1 h7 => by have hk7 : k = 1 ∨ k = 2 ∨ k = 3 ∨ k = 4 ∨ k = 5 ∨ k = 6 ∨ k = 7 := (by omega); rcases hk7 with rfl | rfl | rfl | rfl | rfl | rfl | rfl; exact (by rw [← m5346, ← eq5331]; exact m5354); exact (by rw [← m5347, ← eq5332]; exact m5355); exact (by rw [← m5348, ← eq5333]; exact m5356); exact (by rw [← m5349, ← eq5334]; exact m5357); exact (by rw [← m5350, ← eq5335]; exact m5358); exact (by rw [← m5351, ← eq5336]; exact m5359); exact (by rw [← m5352, ← eq5337]; exact m5360), by rw [← ex5342, ← m5353, ← eq5338]; exact m5361⟩
            have tx5388 : TXK K H5343 s.heap a0 a1 ((10 + x4880.toNatClampNeg) + 1) := TXK.go (TXK.cast fy4887_tx (by omega)) (by omega) rfl ed_ es_ (tx_sK hT gq5322 (fun q t hq ht => x_lt hT hSH4877.2.1 hq (by first | (intro z; simp only [List.mem_cons, List.not_mem_nil, or_false] at z <;> omega) | omega)) cpx_) (fun l_ h1 h2 z => by have hz := oth_t own_ hTH4877 ga0 (i := l_) (by omega) (j := (10 + x4880.toNatClampNeg)) (by omega) (by omega) edp_ (fun q t hq ht n0 nk => m5362 q t hq n0 (by rw [eq5323]; exact nk 1 (by decide)) (by rw [eq5324]; exact nk 2 (by decide)) (by rw [eq5325]; exact nk 3 (by decide)) (by rw [eq5326]; exact nk 4 (by decide)) (by rw [eq5327]; exact nk 5 (by decide)) (by rw [eq5328]; exact nk 6 (by decide)) (by rw [eq5329]; exact nk 7 (by decide)) (by rw [eq5330]; exact nk 8 (by decide))); rw [RFW.wo fy4887_rw (by omega)] at hz; exact z.later hz.1 hz.2)
            have rw5389 : RFW K H5343 s.heap a0 := RFW.tr ⟨fun k hk => fR_kept (x_lt hTH4877 kH5343 ga0 (by decide)), fun k i hk => (by rcases hk with ⟨rfl, _⟩ | ⟨rfl, _⟩ | ⟨rfl, _⟩; exact fR_kept (x_lt hTH4877 kH5343 (ty_fr (q := _) (k := 0) (u := 25) rfl hTH4877 ga0 rg_0 rfl) (by decide)); exact fR_kept (x_lt hTH4877 kH5343 (ty_fr (q := _) (k := 2) (u := 26) rfl hTH4877 ga0 rg_0 rfl) (by decide)); exact fR_kept (x_lt hTH4877 kH5343 (ty_fr (q := _) (k := 3) (u := 27) rfl hTH4877 ga0 rg_0 rfl) (by decide))), fun i hi => RFB.cell (x_lt hTH4877 kH5343 (ow_g hTH4877 ga0 hi) (by decide)), fun i h1 h2 => (if e : i = (10 + x4880.toNatClampNeg) then (by rw [e, edp_]; exact (fun k h1 h8 => by have hk8 : k = 1 ∨ k = 2 ∨ k = 3 ∨ k = 4 ∨ k = 5 ∨ k = 6 ∨ k = 7 ∨ k = 8 := (by omega); rcases hk8 with rfl | rfl | rfl | rfl | rfl | rfl | rfl | rfl; exact (m5346).symm.trans eq5323; exact (m5347).symm.trans eq5324; exact (m5348).symm.trans eq5325; exact (m5349).symm.trans eq5326; exact (m5350).symm.trans eq5327; exact (m5351).symm.trans eq5328; exact (m5352).symm.trans eq5329; exact (m5353).symm.trans eq5330)) else RFT.cell (oth_t own_ hTH4877 ga0 ⟨h1, h2⟩ (j := (10 + x4880.toNatClampNeg)) (by omega) e edp_ (fun q t hq ht n0 nk => m5362 q t hq n0 (by rw [eq5323]; exact nk 1 (by decide)) (by rw [eq5324]; exact nk 2 (by decide)) (by rw [eq5325]; exact nk 3 (by decide)) (by rw [eq5326]; exact nk 4 (by decide)) (by rw [eq5327]; exact nk 5 (by decide)) (by rw [eq5328]; exact nk 6 (by decide)) (by rw [eq5329]; exact nk 7 (by decide)) (by rw [eq5330]; exact nk 8 (by decide)))).1)⟩ fy4887_rw
            refine W.eq (g2 := F0 m 61 ls4878 []) rfl ?_
            obtain ⟨x5390, ex5390⟩ : ∃ y : Int32, y = x4880 + 1 := ⟨_, rfl⟩
            have tx5390 := i_add ex5390 (by omega)
            refine lv_iinc (v := x5390) (lv' := [(2, .int x5390), (0, .ref a0), (1, .ref a1)]) hx hb dX8_copyFrom_61 hl4879 (k := 2) rfl (by rw [ex5390]; rfl) (by decide) rfl (fun ls5391 hl5392 => ?_)
            refine lv_goto (tgt := 41) hx hb dX8_copyFrom_64 (by decide) ?_
            have cn_x5390 := i_cl (x := x5390) (by omega)
            have c00_ : (0 : Int32).toNatClampNeg = 0 := rfl
            have c00_ : (0 : Int32).toNatClampNeg = 0 := rfl
            exact ih41 ls5391 H5343 locsH5343 (x5390) (x4881) (x4882) (x4883) (x4884) (x4885) (x4886) (lv_sub hl5392 [1, 2, 0] rfl) hTH5343 hSH5343 (by have := i_rng x5390; omega) bx4881 bx4882 bx4884 bx4885 bx4886 m5364 m5365 m5366 m5367 m5368 m5369 m5370 m5371 m5372 m5373 m5374 m5375 rw5389 (BXT.cast f5363 (by omega)) (TXK.cast tx5388 (by omega)) (by omega) (by omega)
      refine lv_iload_n hx hb dX8_copyFrom_2 rfl (lv_at hl4868 2 rfl) ?_
      refine lv_aload_n hx hb dX8_copyFrom_3 rfl (lv_at hl4868 1 rfl) ?_
      refine x_gi C hTH4866 (ci := 8) (k := 1) rfl inX8 (by decide) wF_X8_57 ga1 rg_34 rfl dX8_copyFrom_4 (fun x5393 ex5393 bx5393 => ?_)
      have ux5393 : u1 = x5393 := (cy4876_0).trans ex5393.symm
      subst ux5393
      refine lv_icmp_ge (tgt := 31) hx hb dX8_copyFrom_7 (by decide) (fun c5394 => ?_) (fun c5394 => ?_)
      · have k5395 := i_le c5394
        refine lv_aload_n hx hb dX8_copyFrom_31 rfl (lv_at hl4868 0 rfl) ?_
        refine lv_aload_n hx hb dX8_copyFrom_32 rfl (lv_at hl4868 1 rfl) ?_
        refine x_gi C hTH4866 (ci := 8) (k := 1) rfl inX8 (by decide) wF_X8_57 ga1 rg_34 rfl dX8_copyFrom_33 (fun x5396 ex5396 bx5396 => ?_)
        have ux5396 : u1 = x5396 := (cy4876_0).trans ex5396.symm
        subst ux5396
        refine x_put C hTH4866 hSH4866 (ci := 8) (k := 1) (v := .int u1) (ty0 := tyX8) rfl inX8 tyX8_ok nmX8 (by decide) rfl wF_X8_57 ga0 rg_0 rfl rfl (okI (by omega) (by omega)) rfl rfl (AE_in ga0 (by decide)) dX8_copyFrom_36 (fun H5397 locsH5397 hTH5397 hSH5397 wH5397 => ?_)
        have f5398 : RFW K H5397 s.heap a0 := RFW.tr (RFW.wr hTH4866 ga0 wH5397 hap8 (by decide)) fy4876_rw
        have f5399 : BXT K H5397 s.heap a0 a1 x4869.toInt := BXT.kept hT ga0 hTH4866 (fun q t hq ht => wH5397.off (G_ne hq ga0 (by first | (intro z; simp only [List.mem_cons, List.not_mem_nil, or_false] at z <;> omega) | omega))) fy4876_bx
        have f5400 : TXK K H5397 s.heap a0 a1 10 := TXK.kept hT ga0 hTH4866 (fun q t hq ht => wH5397.off (G_ne hq ga0 (by first | (intro z; simp only [List.mem_cons, List.not_mem_nil, or_false] at z <;> omega) | omega))) fy4876_tx
        have m5402 := ex4871.trans (Wr.neI wH5397 (Or.inr (x_apart hKT hts inX8 tyX8 tyX8_ok nmX8 rfl 4 1 (by decide) (by decide) (by decide)))).symm
        have m5403 := ex4872.trans (Wr.neI wH5397 (Or.inr (x_apart hKT hts inX8 tyX8 tyX8_ok nmX8 rfl 5 1 (by decide) (by decide) (by decide)))).symm
        have m5404 := ex4873.trans (Wr.neI wH5397 (Or.inr (x_apart hKT hts inX8 tyX8 tyX8_ok nmX8 rfl 10 1 (by decide) (by decide) (by decide)))).symm
        have m5405 := ex4874.trans (Wr.neI wH5397 (Or.inr (x_apart hKT hts inX8 tyX8 tyX8_ok nmX8 rfl 13 1 (by decide) (by decide) (by decide)))).symm
        have m5406 := ex4875.trans (Wr.neI wH5397 (Or.inr (x_apart hKT hts inX8 tyX8 tyX8_ok nmX8 rfl 16 1 (by decide) (by decide) (by decide)))).symm
        have m5407 := cy4876_0.trans (Wr.neI wH5397 (Or.inl (G_ne ga1 ga0 (by decide)))).symm
        have m5408 := cy4876_1.trans (Wr.neI wH5397 (Or.inl (G_ne ga1 ga0 (by decide)))).symm
        have m5409 := cy4876_2.trans (Wr.neI wH5397 (Or.inl (G_ne ga1 ga0 (by decide)))).symm
        have m5410 := cy4876_3.trans (Wr.neI wH5397 (Or.inl (G_ne ga1 ga0 (by decide)))).symm
        have m5411 := cy4876_4.trans (Wr.neI wH5397 (Or.inl (G_ne ga1 ga0 (by decide)))).symm
        have m5412 := cy4876_5.trans (Wr.neI wH5397 (Or.inl (G_ne ga1 ga0 (by decide)))).symm
        have m5413 := Wr.I wH5397
        have m5413 := m5413.symm
        refine lv_iconst (v := 0) hx hb dX8_copyFrom_39 (by decide) ?_
        refine lv_istore_n (lv' := [(2, .int 0), (0, .ref a0), (1, .ref a1)]) hx hb dX8_copyFrom_40 rfl hl4868 (by decide) rfl (fun ls5414 hl5415 => ?_)
        have c00_ : (0 : Int32).toNatClampNeg = 0 := rfl
        have c00_ : (0 : Int32).toNatClampNeg = 0 := rfl
        exact J41 ((2 - (0 : Int32).toInt).toNat + 1) ls5414 H5397 locsH5397 (0) (u1) (x4871) (x4872) (x4873) (x4874) (x4875) (lv_sub hl5415 [1, 2, 0] rfl) hTH5397 hSH5397 (by decide) (by have := i_rng u1; omega) bx4871 bx4873 bx4874 bx4875 m5413 m5402 m5403 m5404 m5405 m5406 m5407 m5408 m5409 m5410 m5411 m5412 f5398 (BXT.cast f5399 (by omega)) (TXK.cast f5400 (by omega)) (by omega) (by omega)
      · have k5395 := i_nle c5394
        refine lv_aload_n hx hb dX8_copyFrom_10 rfl (lv_at hl4868 0 rfl) ?_
        refine x_gr C hTH4866 (ci := 8) (k := 0) rfl inX8 (by decide) wF_X8_11 ga0 rg_0 rfl dX8_copyFrom_11 (fun q5416 eq5416 gq5416 => ?_)
        replace eq5416 : @Eq Ad q5416 (fR H4866 a0 (K.1.2 8 0)) := eq5416
        refine lv_iload_n hx hb dX8_copyFrom_14 rfl (lv_at hl4868 2 rfl) ?_
        refine x_ar C hTH4866 rfl rfl gq5416 rg_25 ⟨bx4869.1, by show _ < ((10 : Nat) : Int); omega⟩ dX8_copyFrom_15 (fun q5417 eq5417 gq5417 => ?_)
        replace eq5417 : @Eq Ad q5417 (fR H4866 q5416 (x4869 : Int32).toNatClampNeg) := eq5417
        refine lv_aload_n hx hb dX8_copyFrom_16 rfl (lv_at hl4868 1 rfl) ?_
        refine x_gr C hTH4866 (ci := 8) (k := 0) rfl inX8 (by decide) wF_X8_11 ga1 rg_34 rfl dX8_copyFrom_17 (fun q5418 eq5418 gq5418 => ?_)
        replace eq5418 : @Eq Ad q5418 (fR H4866 a1 (K.1.2 8 0)) := eq5418
        refine lv_iload_n hx hb dX8_copyFrom_20 rfl (lv_at hl4868 2 rfl) ?_
        refine x_ar C hTH4866 rfl rfl gq5418 rg_59 ⟨bx4869.1, by show _ < ((10 : Nat) : Int); omega⟩ dX8_copyFrom_21 (fun q5419 eq5419 gq5419 => ?_)
        replace eq5419 : @Eq Ad q5419 (fR H4866 q5418 (x4869 : Int32).toNatClampNeg) := eq5419
        obtain ⟨q5420, eq5420⟩ : ∃ z : Nat, @Eq Ad z (fR H4866 q5417 (K.1.2 0 1)) := ⟨_, rfl⟩
        have gq5420 := ty_fr (q := q5420) (k := 1) (u := 2) eq5420 hTH4866 gq5417 rg_1 rfl
        obtain ⟨q5421, eq5421⟩ : ∃ z : Nat, @Eq Ad z (fR H4866 q5417 (K.1.2 0 2)) := ⟨_, rfl⟩
        have gq5421 := ty_fr (q := q5421) (k := 2) (u := 3) eq5421 hTH4866 gq5417 rg_1 rfl
        obtain ⟨q5422, eq5422⟩ : ∃ z : Nat, @Eq Ad z (fR H4866 q5417 (K.1.2 0 3)) := ⟨_, rfl⟩
        have gq5422 := ty_fr (q := q5422) (k := 3) (u := 4) eq5422 hTH4866 gq5417 rg_1 rfl
        obtain ⟨q5423, eq5423⟩ : ∃ z : Nat, @Eq Ad z (fR H4866 q5417 (K.1.2 0 4)) := ⟨_, rfl⟩
        have gq5423 := ty_fr (q := q5423) (k := 4) (u := 5) eq5423 hTH4866 gq5417 rg_1 rfl
        obtain ⟨q5424, eq5424⟩ : ∃ z : Nat, @Eq Ad z (fR H4866 q5417 (K.1.2 0 5)) := ⟨_, rfl⟩
        have gq5424 := ty_fr (q := q5424) (k := 5) (u := 6) eq5424 hTH4866 gq5417 rg_1 rfl
        obtain ⟨q5425, eq5425⟩ : ∃ z : Nat, @Eq Ad z (fR H4866 q5417 (K.1.2 0 6)) := ⟨_, rfl⟩
        have gq5425 := ty_fr (q := q5425) (k := 6) (u := 7) eq5425 hTH4866 gq5417 rg_1 rfl
        obtain ⟨q5426, eq5426⟩ : ∃ z : Nat, @Eq Ad z (fR H4866 q5417 (K.1.2 0 7)) := ⟨_, rfl⟩
        have gq5426 := ty_fr (q := q5426) (k := 7) (u := 8) eq5426 hTH4866 gq5417 rg_1 rfl
        obtain ⟨q5427, eq5427⟩ : ∃ z : Nat, @Eq Ad z (fR H4866 q5417 (K.1.2 0 10)) := ⟨_, rfl⟩
        have gq5427 := ty_fr (q := q5427) (k := 10) (u := 9) eq5427 hTH4866 gq5417 rg_1 rfl
        obtain ⟨q5428, eq5428⟩ : ∃ z : Nat, @Eq Ad z (fR H4866 q5417 (K.1.2 0 11)) := ⟨_, rfl⟩
        have gq5428 := ty_fr (q := q5428) (k := 11) (u := 10) eq5428 hTH4866 gq5417 rg_1 rfl
        obtain ⟨q5429, eq5429⟩ : ∃ z : Nat, @Eq Ad z (fR H4866 q5417 (K.1.2 0 12)) := ⟨_, rfl⟩
        have gq5429 := ty_fr (q := q5429) (k := 12) (u := 11) eq5429 hTH4866 gq5417 rg_1 rfl
        obtain ⟨q5430, eq5430⟩ : ∃ z : Nat, @Eq Ad z (fR H4866 q5417 (K.1.2 0 13)) := ⟨_, rfl⟩
        have gq5430 := ty_fr (q := q5430) (k := 13) (u := 13) eq5430 hTH4866 gq5417 rg_1 rfl
        obtain ⟨q5431, eq5431⟩ : ∃ z : Nat, @Eq Ad z (fR H4866 q5417 (K.1.2 0 17)) := ⟨_, rfl⟩
        have gq5431 := ty_fr (q := q5431) (k := 17) (u := 15) eq5431 hTH4866 gq5417 rg_1 rfl
        obtain ⟨q5432, eq5432⟩ : ∃ z : Nat, @Eq Ad z (fR H4866 q5419 (K.1.2 0 1)) := ⟨_, rfl⟩
        have gq5432 := ty_fr (q := q5432) (k := 1) (u := 36) eq5432 hTH4866 gq5419 rg_35 rfl
        obtain ⟨q5433, eq5433⟩ : ∃ z : Nat, @Eq Ad z (fR H4866 q5419 (K.1.2 0 2)) := ⟨_, rfl⟩
        have gq5433 := ty_fr (q := q5433) (k := 2) (u := 37) eq5433 hTH4866 gq5419 rg_35 rfl
        obtain ⟨q5434, eq5434⟩ : ∃ z : Nat, @Eq Ad z (fR H4866 q5419 (K.1.2 0 3)) := ⟨_, rfl⟩
        have gq5434 := ty_fr (q := q5434) (k := 3) (u := 38) eq5434 hTH4866 gq5419 rg_35 rfl
        obtain ⟨q5435, eq5435⟩ : ∃ z : Nat, @Eq Ad z (fR H4866 q5419 (K.1.2 0 4)) := ⟨_, rfl⟩
        have gq5435 := ty_fr (q := q5435) (k := 4) (u := 39) eq5435 hTH4866 gq5419 rg_35 rfl
        obtain ⟨q5436, eq5436⟩ : ∃ z : Nat, @Eq Ad z (fR H4866 q5419 (K.1.2 0 5)) := ⟨_, rfl⟩
        have gq5436 := ty_fr (q := q5436) (k := 5) (u := 40) eq5436 hTH4866 gq5419 rg_35 rfl
        obtain ⟨q5437, eq5437⟩ : ∃ z : Nat, @Eq Ad z (fR H4866 q5419 (K.1.2 0 6)) := ⟨_, rfl⟩
        have gq5437 := ty_fr (q := q5437) (k := 6) (u := 41) eq5437 hTH4866 gq5419 rg_35 rfl
        obtain ⟨q5438, eq5438⟩ : ∃ z : Nat, @Eq Ad z (fR H4866 q5419 (K.1.2 0 7)) := ⟨_, rfl⟩
        have gq5438 := ty_fr (q := q5438) (k := 7) (u := 42) eq5438 hTH4866 gq5419 rg_35 rfl
        obtain ⟨q5439, eq5439⟩ : ∃ z : Nat, @Eq Ad z (fR H4866 q5419 (K.1.2 0 10)) := ⟨_, rfl⟩
        have gq5439 := ty_fr (q := q5439) (k := 10) (u := 43) eq5439 hTH4866 gq5419 rg_35 rfl
        obtain ⟨q5440, eq5440⟩ : ∃ z : Nat, @Eq Ad z (fR H4866 q5419 (K.1.2 0 11)) := ⟨_, rfl⟩
        have gq5440 := ty_fr (q := q5440) (k := 11) (u := 44) eq5440 hTH4866 gq5419 rg_35 rfl
        obtain ⟨q5441, eq5441⟩ : ∃ z : Nat, @Eq Ad z (fR H4866 q5419 (K.1.2 0 12)) := ⟨_, rfl⟩
        have gq5441 := ty_fr (q := q5441) (k := 12) (u := 45) eq5441 hTH4866 gq5419 rg_35 rfl
        obtain ⟨q5442, eq5442⟩ : ∃ z : Nat, @Eq Ad z (fR H4866 q5419 (K.1.2 0 13)) := ⟨_, rfl⟩
        have gq5442 := ty_fr (q := q5442) (k := 13) (u := 47) eq5442 hTH4866 gq5419 rg_35 rfl
        obtain ⟨q5443, eq5443⟩ : ∃ z : Nat, @Eq Ad z (fR H4866 q5419 (K.1.2 0 17)) := ⟨_, rfl⟩
        have gq5443 := ty_fr (q := q5443) (k := 17) (u := 49) eq5443 hTH4866 gq5419 rg_35 rfl
        obtain ⟨x5444, ex5444⟩ : ∃ z : Int32, z = fI H4866 q5417 (K.1.2 0 0) := ⟨_, rfl⟩
        have bx5444 := ty_fi (x := x5444) (k := 0) ex5444 hTH4866 gq5417 rg_1 rfl
        obtain ⟨x5445, ex5445⟩ : ∃ z : Int32, z = fI H4866 q5417 (K.1.2 0 8) := ⟨_, rfl⟩
        have bx5445 := ty_fi (x := x5445) (k := 8) ex5445 hTH4866 gq5417 rg_1 rfl
        obtain ⟨x5446, ex5446⟩ : ∃ z : Int32, z = fI H4866 q5417 (K.1.2 0 9) := ⟨_, rfl⟩
        have bx5446 := ty_fi (x := x5446) (k := 9) ex5446 hTH4866 gq5417 rg_1 rfl
        obtain ⟨x5447, ex5447⟩ : ∃ z : Int32, z = fI H4866 q5419 (K.1.2 0 0) := ⟨_, rfl⟩
        have bx5447 := ty_fi (x := x5447) (k := 0) ex5447 hTH4866 gq5419 rg_35 rfl
        obtain ⟨x5448, ex5448⟩ : ∃ z : Int32, z = fI H4866 q5419 (K.1.2 0 8) := ⟨_, rfl⟩
        have bx5448 := ty_fi (x := x5448) (k := 8) ex5448 hTH4866 gq5419 rg_35 rfl
        obtain ⟨x5449, ex5449⟩ : ∃ z : Int32, z = fI H4866 q5419 (K.1.2 0 9) := ⟨_, rfl⟩
        have bx5449 := ty_fi (x := x5449) (k := 9) ex5449 hTH4866 gq5419 rg_35 rfl
        refine x_V (As := [.ref q5419]) (rest := []) C (a_X0_copyFrom_gn l K G H4866 (x5444) (x5445) (x5446) (x5447) (x5448) (x5449) hTH4866 gq5417 gq5419 gq5420 eq5420 gq5421 eq5421 gq5422 eq5422 gq5423 eq5423 gq5424 eq5424 gq5425 eq5425 gq5426 eq5426 gq5427 eq5427 gq5428 eq5428 gq5429 eq5429 gq5430 eq5430 gq5431 eq5431 gq5432 eq5432 gq5433 eq5433 gq5434 eq5434 gq5435 eq5435 gq5436 eq5436 gq5437 eq5437 gq5438 eq5438 gq5439 eq5439 gq5440 eq5440 gq5441 eq5441 gq5442 eq5442 gq5443 eq5443 ex5444 ex5445 ex5446 ex5447 ex5448 ex5449) yo_X0_copyFrom wM_X8_60 ⟨⟨by decide, by decide⟩, by decide, by decide⟩ (x_rv C hTH4866 (ci := 0) rfl gq5417 rg_1) rfl hl4868.1 rfl (Nat.le_of_ble_eq_true rfl) dX8_copyFrom_22 hSH4866 (AE_sub (fun _ _ => rfl) (by decide) hSH4866.1) (fun vH5450 H5450 locsH5450 pH5450 zH5450 kH5450 hSH5450 => ?_)
        obtain ⟨x5451, x5452, x5453, hvH5450, ex5451, ex5452, ex5453, m5454, m5455, m5456, m5457, m5458, m5459, m5460, m5461, m5462, m5463, m5464, m5465, m5466, m5467, m5468, hTH5450⟩ := pH5450
        subst hvH5450
        have f5469 : TXK K H5450 s.heap a0 a1 10 := TXK.kept hT ga0 hTH4866 (fun q t hq ht => x_lt hTH4866 kH5450 hq (by first | (intro z; simp only [List.mem_cons, List.not_mem_nil, or_false] at z <;> omega) | omega)) fy4876_tx
        have m5470 := (ex4870).trans (fI_kept (x_lt hTH4866 kH5450 ga0 (by decide))).symm
        have m5471 := (ex4871).trans (fI_kept (x_lt hTH4866 kH5450 ga0 (by decide))).symm
        have m5472 := (ex4872).trans (fI_kept (x_lt hTH4866 kH5450 ga0 (by decide))).symm
        have m5473 := (ex4873).trans (fI_kept (x_lt hTH4866 kH5450 ga0 (by decide))).symm
        have m5474 := (ex4874).trans (fI_kept (x_lt hTH4866 kH5450 ga0 (by decide))).symm
        have m5475 := (ex4875).trans (fI_kept (x_lt hTH4866 kH5450 ga0 (by decide))).symm
        have m5476 := (cy4876_0).trans (fI_kept (x_lt hTH4866 kH5450 ga1 (by decide))).symm
        have m5477 := (cy4876_1).trans (fI_kept (x_lt hTH4866 kH5450 ga1 (by decide))).symm
        have m5478 := (cy4876_2).trans (fI_kept (x_lt hTH4866 kH5450 ga1 (by decide))).symm
        have m5479 := (cy4876_3).trans (fI_kept (x_lt hTH4866 kH5450 ga1 (by decide))).symm
        have m5480 := (cy4876_4).trans (fI_kept (x_lt hTH4866 kH5450 ga1 (by decide))).symm
        have m5481 := (cy4876_5).trans (fI_kept (x_lt hTH4866 kH5450 ga1 (by decide))).symm
        have m5482 := (eq5416).trans (fR_kept (x_lt hTH4866 kH5450 ga0 (by decide))).symm
        have m5483 := (eq5418).trans (fR_kept (x_lt hTH4866 kH5450 ga1 (by decide))).symm
        have m5484 := (eq5432).trans (fR_kept (x_lt hTH4866 kH5450 gq5419 (by decide))).symm
        have m5485 := (eq5433).trans (fR_kept (x_lt hTH4866 kH5450 gq5419 (by decide))).symm
        have m5486 := (eq5434).trans (fR_kept (x_lt hTH4866 kH5450 gq5419 (by decide))).symm
        have m5487 := (eq5435).trans (fR_kept (x_lt hTH4866 kH5450 gq5419 (by decide))).symm
        have m5488 := (eq5436).trans (fR_kept (x_lt hTH4866 kH5450 gq5419 (by decide))).symm
        have m5489 := (eq5437).trans (fR_kept (x_lt hTH4866 kH5450 gq5419 (by decide))).symm
        have m5490 := (eq5438).trans (fR_kept (x_lt hTH4866 kH5450 gq5419 (by decide))).symm
        have m5491 := (eq5439).trans (fR_kept (x_lt hTH4866 kH5450 gq5419 (by decide))).symm
        have m5492 := (eq5440).trans (fR_kept (x_lt hTH4866 kH5450 gq5419 (by decide))).symm
        have m5493 := (eq5441).trans (fR_kept (x_lt hTH4866 kH5450 gq5419 (by decide))).symm
        have m5494 := (eq5442).trans (fR_kept (x_lt hTH4866 kH5450 gq5419 (by decide))).symm
        have m5495 := (eq5443).trans (fR_kept (x_lt hTH4866 kH5450 gq5419 (by decide))).symm
        have m5496 := (ex5447).trans (fI_kept (x_lt hTH4866 kH5450 gq5419 (by decide))).symm
        have m5497 := (ex5448).trans (fI_kept (x_lt hTH4866 kH5450 gq5419 (by decide))).symm
        have m5498 := (ex5449).trans (fI_kept (x_lt hTH4866 kH5450 gq5419 (by decide))).symm
        have bx5451 := ty_fi (x := x5451) (k := 0) ex5451 hTH5450 gq5417 rg_1 rfl
        have bx5452 := ty_fi (x := x5452) (k := 8) ex5452 hTH5450 gq5417 rg_1 rfl
        have bx5453 := ty_fi (x := x5453) (k := 9) ex5453 hTH5450 gq5417 rg_1 rfl
        have cn_x4869 := i_cl (x := x4869) bx4869.1
        have own_ : OWN K H4866 a0 := hy0.st fy4876_rw
        have hL_ : x4869.toNatClampNeg < 10 := by omega
        have ed_ : ow K s.heap a0 x4869.toNatClampNeg = q5417 := by rw [← RFW.wo fy4876_rw (by omega), ow_b hL_, ← eq5416, ← eq5417]
        have es_ : ow K s.heap a1 x4869.toNatClampNeg = q5419 := by rw [← RFW.wo (RFW.cellK hT ga1 (fun q t hq ht => x_lt hT hSH4866.2.1 hq (by first | (intro z; simp only [List.mem_cons, List.not_mem_nil, or_false] at z <;> omega) | omega))) (by omega), ow_b hL_, ← eq5418, ← eq5419]
        have edp_ : ow K H4866 a0 x4869.toNatClampNeg = q5417 := (RFW.wo fy4876_rw (by omega)).trans ed_
        have bx5499 : BXT K H5450 s.heap a0 a1 (x4869.toInt + 1) := BXT.go (n := x4869.toInt + 1) (BXT.cast fy4876_bx (by omega)) hL_ (by omega) ed_ es_ m5466 (vw_zK hT gq5419 (fun q t hq ht => x_lt hT hSH4866.2.1 hq (by first | (intro z; simp only [List.mem_cons, List.not_mem_nil, or_false] at z <;> omega) | omega))) (fun i hi hn => by rw [← RFW.wo fy4876_rw (by omega)]; exact oth_b own_ hTH4866 ga0 hi hL_ hn edp_ (fun q t hq ht n0 nk => m5467 q t hq (by omega) (by omega) n0 (by rw [eq5420]; exact nk 1 (by decide)) (by rw [eq5421]; exact nk 2 (by decide)) (by rw [eq5422]; exact nk 3 (by decide)) (by rw [eq5423]; exact nk 4 (by decide)) (by rw [eq5424]; exact nk 5 (by decide)) (by rw [eq5425]; exact nk 6 (by decide)) (by rw [eq5426]; exact nk 7 (by decide)) (by rw [eq5427]; exact nk 10 (by decide)) (by rw [eq5428]; exact nk 11 (by decide)) (by rw [eq5431]; exact nk 17 (by decide))))
        have rw5500 : RFW K H5450 s.heap a0 := RFW.tr ⟨fun k hk => fR_kept (x_lt hTH4866 kH5450 ga0 (by decide)), fun k i hk => (by rcases hk with ⟨rfl, _⟩ | ⟨rfl, _⟩ | ⟨rfl, _⟩; exact fR_kept (x_lt hTH4866 kH5450 (ty_fr (q := _) (k := 0) (u := 25) rfl hTH4866 ga0 rg_0 rfl) (by decide)); exact fR_kept (x_lt hTH4866 kH5450 (ty_fr (q := _) (k := 2) (u := 26) rfl hTH4866 ga0 rg_0 rfl) (by decide)); exact fR_kept (x_lt hTH4866 kH5450 (ty_fr (q := _) (k := 3) (u := 27) rfl hTH4866 ga0 rg_0 rfl) (by decide))), fun i hi => (if e : i = x4869.toNatClampNeg then (by rw [e, edp_]; exact m5468) else RFB.cell (oth_c own_ hTH4866 ga0 hi hL_ e edp_ (fun q t hq ht n0 nk => m5467 q t hq (by omega) (by omega) n0 (by rw [eq5420]; exact nk 1 (by decide)) (by rw [eq5421]; exact nk 2 (by decide)) (by rw [eq5422]; exact nk 3 (by decide)) (by rw [eq5423]; exact nk 4 (by decide)) (by rw [eq5424]; exact nk 5 (by decide)) (by rw [eq5425]; exact nk 6 (by decide)) (by rw [eq5426]; exact nk 7 (by decide)) (by rw [eq5427]; exact nk 10 (by decide)) (by rw [eq5428]; exact nk 11 (by decide)) (by rw [eq5431]; exact nk 17 (by decide))))), fun i h1 h2 => RFT.cell (x_lt hTH4866 kH5450 (ow_t hTH4866 ga0 h1 h2) (by decide))⟩ fy4876_rw
        refine W.eq (g2 := F0 m 25 ls4867 []) rfl ?_
        obtain ⟨x5501, ex5501⟩ : ∃ y : Int32, y = x4869 + 1 := ⟨_, rfl⟩
        have tx5501 := i_add ex5501 (by omega)
        refine lv_iinc (v := x5501) (lv' := [(2, .int x5501), (0, .ref a0), (1, .ref a1)]) hx hb dX8_copyFrom_25 hl4868 (k := 2) rfl (by rw [ex5501]; rfl) (by decide) rfl (fun ls5502 hl5503 => ?_)
        refine lv_goto (tgt := 2) hx hb dX8_copyFrom_28 (by decide) ?_
        have cn_x5501 := i_cl (x := x5501) (by omega)
        have c00_ : (0 : Int32).toNatClampNeg = 0 := rfl
        have c00_ : (0 : Int32).toNatClampNeg = 0 := rfl
        exact ih2 ls5502 H5450 locsH5450 (x5501) (x4870) (x4871) (x4872) (x4873) (x4874) (x4875) (lv_sub hl5503 [1, 2, 0] rfl) hTH5450 hSH5450 (by have := i_rng x5501; omega) bx4870 bx4871 bx4873 bx4874 bx4875 m5470 m5471 m5472 m5473 m5474 m5475 m5476 m5477 m5478 m5479 m5480 m5481 rw5500 (BXT.cast bx5499 (by omega)) (TXK.cast f5469 (by omega)) (by omega) (by omega)
  refine lv_iconst (v := 0) hx hb dX8_copyFrom_0 (by decide) ?_
  refine lv_istore_n (lv' := [(2, .int 0), (0, .ref a0), (1, .ref a1)]) hx hb dX8_copyFrom_1 rfl hl (by decide) rfl (fun ls5504 hl5505 => ?_)
  have c00_ : (0 : Int32).toNatClampNeg = 0 := rfl
  have c00_ : (0 : Int32).toNatClampNeg = 0 := rfl
  exact J2 ((10 - (0 : Int32).toInt).toNat + 1) ls5504 s.heap [] (0) (d1) (d4) (d5) (d10) (d13) (d16) (lv_sub hl5505 [1, 2, 0] rfl) hT hS (by decide) (by have := i_rng d1; omega) (by have := i_rng d4; omega) (by have := i_rng d10; omega) (by have := i_rng d13; omega) (by have := i_rng d16; omega) ed1 ed4 ed5 ed10 ed13 ed16 eu1 eu4 eu5 eu10 eu13 eu16 f0_rw (BXT.cast f0_bx (by omega)) (TXK.cast f0_tx (by omega)) (by omega) (by omega)
