/-! ===== what a law's word tells, of the class's arrays ===== -/
theorem vl_at {un S un1 S1 k : Nat → Int32} {a z a1 z1 : Nat} {r f : Int32} (h : r = vlC un1 S1 k a1 z1) (e1 : ∀ j, un1 j = un j) (e2 : ∀ j, S1 j = S j) (e3 : a1 = a) (e4 : z1 = z) (g : ∀ k : Nat → Int32, vlC un S k a z = f) : r = f := by
  obtain rfl : un1 = un := funext e1
  obtain rfl : S1 = S := funext e2
  subst e3; subst e4
  rw [h]; exact g k
def tdA (H : Heap) (wq fq cq dq : Nat) (fs fw : Nat → Int32) (w t : Int) (f l : Nat) : Int := tdF (fun j => (fI H wq j).toInt) (fun j => (fI H fq j).toInt) (fun j => decide ((fI H cq j).toInt < (fI H dq j).toInt)) fs fw w t f l
theorem tdA_y {H : Heap} {wq fq cq dq : Nat} {fs fw : Nat → Int32} {w t : Int} {f l : Nat} (hf : 0 < f) (h1 : (fI H wq l).toInt = w) (h2 : (fI H fq l).toInt = t) (h3 : (fI H dq l).toInt ≤ (fI H cq l).toInt ∨ fw l ≠ 0) : tdA H wq fq cq dq fs fw w t f l = clT w (fs l).toInt := tdF_y hf h1 h2 (h3.imp (fun z => decide_eq_false (by omega)) id)
theorem tdA_n {H : Heap} {wq fq cq dq : Nat} {fs fw : Nat → Int32} {w t : Int} {f g l m : Nat} (hf : f = g + 1) (hm : m = l + 1) (h : (fI H wq l).toInt ≠ w ∨ (fI H fq l).toInt ≠ t ∨ ((fI H cq l).toInt < (fI H dq l).toInt ∧ fw l = 0)) : tdA H wq fq cq dq fs fw w t f l = tdA H wq fq cq dq fs fw w t g m := by
  refine tdF_n hf hm (fun z => ?_)
  rcases h with h | h | ⟨h, h0⟩
  · exact h z.1
  · exact h z.2.1
  · rcases z.2.2 with a | a
    · have := of_decide_eq_false a; omega
    · exact a h0
theorem tdA_0 {H : Heap} {wq fq cq dq : Nat} {fs fw : Nat → Int32} {w t : Int} {f l : Nat} (hf : f = 0) : tdA H wq fq cq dq fs fw w t f l = 0 := tdF_0 hf
set_option maxHeartbeats 4000000 in
set_option maxRecDepth 100000 in
theorem a_X7_hasWhen_v (l : Launch) (K : KE) (G : Nat → Option Nat) (H : Heap) {a0 : Nat} (x1 : Int32) {cq : Nat} {dq : Nat} (hT : TY K G H) (ga0 : G a0 = some 16) (hx1 : 0 ≤ x1.toInt ∧ x1.toInt ≤ 15) (gcq : G cq = some 22) (ecq : cq = fR H a0 (K.1.2 7 6)) (gdq : G dq = some 23) (edq : dq = fR H a0 (K.1.2 7 7)) : MX l K yX7_hasWhen cX7_hasWhen 2 (some .boolean) 0 0 0 0 [.ref a0, .int x1] H (AE G [] H.size) (fun v H1 => ∃ (r : Int32), v = some (.int r) ∧ (0 ≤ r.toInt ∧ r.toInt ≤ 1) ∧ ((r.toInt = 1 ∧ (fI H cq x1.toNatClampNeg).toInt < (fI H dq x1.toNatClampNeg).toInt) ∨ (r.toInt = 0 ∧ (fI H dq x1.toNatClampNeg).toInt ≤ (fI H cq x1.toNatClampNeg).toInt)) ∧ TY K G H1) := by
  refine MX.of (by decide +kernel) (Nat.le_of_ble_eq_true rfl) ?_
  intro p e s m below meth c ls Q C hH hl hQ
  subst hH
  have C : CX p K s m _ meth c RX7 cX7_hasWhen 2 (some .boolean) "hasWhen" := C
  obtain ⟨hx, hb, hml, hown, hts, hKT, hr, hlocks, hnm⟩ := id C
  have hl : lv_has ls 2 [(0, .ref a0), (1, .int x1)] := hl
  have hS : va_S (AE G [] s.heap.size) s.heap s.heap [] := va_S.rf
  have n_0 : (0 : Int32).toInt = 0 := rfl
  have n_1 : (1 : Int32).toInt = 1 := rfl
  refine lv_aload_n hx hb dX7_hasWhen_0 rfl (lv_at hl 0 rfl) ?_
  refine x_gr C hT (ci := 7) (k := 6) rfl inX7 (by decide) wF_X7_27 ga0 rg_16 rfl dX7_hasWhen_1 (fun q125 eq125 gq125 => ?_)
  have uq125 : cq = q125 := (ecq).trans eq125.symm
  subst uq125
  refine lv_iload_n hx hb dX7_hasWhen_4 rfl (lv_at hl 1 rfl) ?_
  refine x_ai C hT gcq rg_22 ⟨by omega, by show _ < ((16 : Nat) : Int); omega⟩ dX7_hasWhen_5 (fun x126 ex126 bx126 => ?_)
  refine lv_aload_n hx hb dX7_hasWhen_6 rfl (lv_at hl 0 rfl) ?_
  refine x_gr C hT (ci := 7) (k := 7) rfl inX7 (by decide) wF_X7_30 ga0 rg_16 rfl dX7_hasWhen_7 (fun q127 eq127 gq127 => ?_)
  have uq127 : dq = q127 := (edq).trans eq127.symm
  subst uq127
  refine lv_iload_n hx hb dX7_hasWhen_10 rfl (lv_at hl 1 rfl) ?_
  refine x_ai C hT gdq rg_23 ⟨by omega, by show _ < ((16 : Nat) : Int); omega⟩ dX7_hasWhen_11 (fun x128 ex128 bx128 => ?_)
  refine lv_icmp_ge (tgt := 19) hx hb dX7_hasWhen_12 (by decide) (fun c129 => ?_) (fun c129 => ?_)
  · have k130 := i_le c129
    refine lv_iconst (v := 0) hx hb dX7_hasWhen_19 (by decide) ?_
    exact x_zret C hQ (Or.inl rfl) dX7_hasWhen_20 hS (by decide) (by decide) (⟨0, rfl, by decide, (by rw [← ex126, ← ex128]; omega), hT⟩)
  · have k130 := i_nle c129
    refine lv_iconst (v := 1) hx hb dX7_hasWhen_15 (by decide) ?_
    refine lv_goto (tgt := 20) hx hb dX7_hasWhen_16 (by decide) ?_
    exact x_zret C hQ (Or.inr rfl) dX7_hasWhen_20 hS (by decide) (by decide) (⟨1, rfl, by decide, (by rw [← ex126, ← ex128]; omega), hT⟩)

set_option maxHeartbeats 4000000 in
set_option maxRecDepth 100000 in
theorem a_X6_told_v (l : Launch) (K : KE) (G : Nat → Option Nat) (H : Heap) {a0 : Nat} {a1 : Nat} (x2 : Int32) (x3 : Int32) {uq : Nat} {tq : Nat} {sq : Nat} {wq : Nat} {fq : Nat} {bq : Nat} {cq : Nat} {dq : Nat} (li : Int32) (fs : Nat → Int32) (fw : Nat → Int32) (hT : TY K G H) (ga0 : G a0 = some 82) (ga1 : G a1 = some 16) (guq : G uq = some 83) (euq : uq = fR H a0 (K.1.2 6 0)) (gtq : G tq = some 84) (etq : tq = fR H a0 (K.1.2 6 1)) (gsq : G sq = some 24) (esq : sq = fR H a1 (K.1.2 7 8)) (gwq : G wq = some 17) (ewq : wq = fR H a1 (K.1.2 7 1)) (gfq : G fq = some 18) (efq : fq = fR H a1 (K.1.2 7 2)) (gbq : G bq = some 21) (ebq : bq = fR H a1 (K.1.2 7 5)) (gcq : G cq = some 22) (ecq : cq = fR H a1 (K.1.2 7 6)) (gdq : G dq = some 23) (edq : dq = fR H a1 (K.1.2 7 7)) (eli : li = fI H a1 (K.1.2 7 0)) (hy0 : ∀ l : Nat, (l : Int) < li.toInt → ∀ j : Nat, (((fI H bq l).toNatClampNeg ≤ j ∧ j < (fI H cq l).toNatClampNeg) ∨ ((fI H cq l).toNatClampNeg ≤ j ∧ j < (fI H dq l).toNatClampNeg)) → 0 ≤ (fI H sq j).toInt) (hy1 : ∀ l : Nat, (l : Int) < li.toInt → ∀ k : Nat → Int32, vlC (fun j => fI H uq j) (fun j => fI H sq j) k (fI H bq l).toNatClampNeg (fI H cq l).toNatClampNeg = fs l) (hy2 : ∀ l : Nat, (l : Int) < li.toInt → (fI H cq l).toInt < (fI H dq l).toInt → ∀ k : Nat → Int32, vlC (fun j => fI H uq j) (fun j => fI H sq j) k (fI H cq l).toNatClampNeg (fI H dq l).toNatClampNeg = fw l) : MX l K yX6_told cX6_told 6 (some .int) 2 50 0 0 [.ref a0, .ref a1, .int x2, .int x3] H (AE G [84] H.size) (fun v H1 => ∃ (r : Int32), v = some (.int r) ∧ (r.toInt = tdA H wq fq cq dq fs fw x2.toInt x3.toInt (li.toNatClampNeg) 0) ∧ TY K G H1) := by
  refine MX.of (by decide +kernel) (Nat.le_of_ble_eq_true rfl) ?_
  intro p e s m below meth c ls Q C hH hl hQ
  subst hH
  have C : CX p K s m _ meth c RX6 cX6_told 6 (some .int) "told" := C
  obtain ⟨hx, hb, hml, hown, hts, hKT, hr, hlocks, hnm⟩ := id C
  have hl : lv_has ls 6 [(0, .ref a0), (1, .ref a1), (2, .int x2), (3, .int x3)] := hl
  have hS : va_S (AE G [84] s.heap.size) s.heap s.heap [] := va_S.rf
  have n_m9999 : ((-9999) : Int32).toInt = -9999 := rfl
  have n_0 : (0 : Int32).toInt = 0 := rfl
  have n_1 : (1 : Int32).toInt = 1 := rfl
  have n_9999 : (9999 : Int32).toInt = 9999 := rfl
  have n_99999 : (99999 : Int32).toInt = 99999 := rfl
  have bli := ty_fi (x := li) (k := 0) eli hT ga1 rg_16 rfl
  have f0_s_uq : ∀ j : Nat, fI s.heap uq j = fI s.heap uq j := fun _ => rfl
  have f0_s_sq : ∀ j : Nat, fI s.heap sq j = fI s.heap sq j := fun _ => rfl
  have f0_s_wq : ∀ j : Nat, fI s.heap wq j = fI s.heap wq j := fun _ => rfl
  have f0_s_fq : ∀ j : Nat, fI s.heap fq j = fI s.heap fq j := fun _ => rfl
  have f0_s_bq : ∀ j : Nat, fI s.heap bq j = fI s.heap bq j := fun _ => rfl
  have f0_s_cq : ∀ j : Nat, fI s.heap cq j = fI s.heap cq j := fun _ => rfl
  have f0_s_dq : ∀ j : Nat, fI s.heap dq j = fI s.heap dq j := fun _ => rfl
  have J3 : ∀ (nf : Nat)  (ls1788 : Array Slot) (H1787 : Heap) (locsH1787 : List Loc) (x1790 : Int32), lv_has ls1788 6 [(0, .ref a0), (1, .ref a1), (2, .int x2), (3, .int x3), (4, .int x1790)] → TY K G H1787 → va_S (AE G [84] s.heap.size) s.heap H1787 locsH1787 → (0 ≤ x1790.toInt ∧ x1790.toInt ≤ 16) → (uq = fR H1787 a0 (K.1.2 6 0)) → (tq = fR H1787 a0 (K.1.2 6 1)) → (sq = fR H1787 a1 (K.1.2 7 8)) → (wq = fR H1787 a1 (K.1.2 7 1)) → (fq = fR H1787 a1 (K.1.2 7 2)) → (bq = fR H1787 a1 (K.1.2 7 5)) → (cq = fR H1787 a1 (K.1.2 7 6)) → (dq = fR H1787 a1 (K.1.2 7 7)) → (li = fI H1787 a1 (K.1.2 7 0)) → (∀ j : Nat, fI H1787 uq j = fI s.heap uq j) → (∀ j : Nat, fI H1787 sq j = fI s.heap sq j) → (∀ j : Nat, fI H1787 wq j = fI s.heap wq j) → (∀ j : Nat, fI H1787 fq j = fI s.heap fq j) → (∀ j : Nat, fI H1787 bq j = fI s.heap bq j) → (∀ j : Nat, fI H1787 cq j = fI s.heap cq j) → (∀ j : Nat, fI H1787 dq j = fI s.heap dq j) → (16 - x1790.toInt < (nf : Int)) → (tdA s.heap wq fq cq dq fs fw x2.toInt x3.toInt (li.toNatClampNeg) 0 = tdA s.heap wq fq cq dq fs fw x2.toInt x3.toInt (li.toNatClampNeg - x1790.toNatClampNeg) x1790.toNatClampNeg) → W p l e ({ frames := 2, cells := 0, slots := 0, locals := 50 } : Room) s m (([.ref a0, .ref a1, .int x2, .int x3] : List Value).toArray) below meth c H1787 locsH1787 0 0 Q (F0 m 3 ls1788 []) := by
    intro nf
    induction nf with
    | zero =>
      intro  ls1788 H1787 locsH1787 x1790 hl1789 hTH1787 hSH1787 bx1790 cy1791_0 cy1791_1 cy1791_2 cy1791_3 cy1791_4 cy1791_5 cy1791_6 cy1791_7 cy1791_8 fy1791_s_uq fy1791_s_sq fy1791_s_wq fy1791_s_fq fy1791_s_bq fy1791_s_cq fy1791_s_dq hm3 hsp3
      exfalso
      omega
    | succ nf ih3 =>
      intro  ls1788 H1787 locsH1787 x1790 hl1789 hTH1787 hSH1787 bx1790 cy1791_0 cy1791_1 cy1791_2 cy1791_3 cy1791_4 cy1791_5 cy1791_6 cy1791_7 cy1791_8 fy1791_s_uq fy1791_s_sq fy1791_s_wq fy1791_s_fq fy1791_s_bq fy1791_s_cq fy1791_s_dq hm3 hsp3
      have J65 : ∀  (ls1793 : Array Slot) (H1792 : Heap) (locsH1792 : List Loc) , lv_has ls1793 6 [(0, .ref a0), (1, .ref a1), (2, .int x2), (4, .int x1790)] → TY K G H1792 → va_S (AE G [84] s.heap.size) s.heap H1792 locsH1792 → (0 ≤ x1790.toInt ∧ x1790.toInt ≤ 15) → (uq = fR H1792 a0 (K.1.2 6 0)) → (tq = fR H1792 a0 (K.1.2 6 1)) → (sq = fR H1792 a1 (K.1.2 7 8)) → (wq = fR H1792 a1 (K.1.2 7 1)) → (fq = fR H1792 a1 (K.1.2 7 2)) → (bq = fR H1792 a1 (K.1.2 7 5)) → (cq = fR H1792 a1 (K.1.2 7 6)) → (dq = fR H1792 a1 (K.1.2 7 7)) → (li = fI H1792 a1 (K.1.2 7 0)) → (∀ j : Nat, fI H1792 uq j = fI s.heap uq j) → (∀ j : Nat, fI H1792 sq j = fI s.heap sq j) → (∀ j : Nat, fI H1792 wq j = fI s.heap wq j) → (∀ j : Nat, fI H1792 fq j = fI s.heap fq j) → (∀ j : Nat, fI H1792 bq j = fI s.heap bq j) → (∀ j : Nat, fI H1792 cq j = fI s.heap cq j) → (∀ j : Nat, fI H1792 dq j = fI s.heap dq j) → (x1790.toInt < li.toInt) → (tdA s.heap wq fq cq dq fs fw x2.toInt x3.toInt (li.toNatClampNeg) 0 = tdA s.heap wq fq cq dq fs fw x2.toInt x3.toInt (li.toNatClampNeg - x1790.toNatClampNeg) x1790.toNatClampNeg) → ((fI s.heap wq x1790.toNatClampNeg).toInt = x2.toInt) → ((fI s.heap fq x1790.toNatClampNeg).toInt = x3.toInt) → ((fI s.heap dq x1790.toNatClampNeg).toInt ≤ (fI s.heap cq x1790.toNatClampNeg).toInt ∨ fw x1790.toNatClampNeg ≠ 0) → W p l e ({ frames := 2, cells := 0, slots := 0, locals := 50 } : Room) s m (([.ref a0, .ref a1, .int x2, .int x3] : List Value).toArray) below meth c H1792 locsH1792 0 0 Q (F0 m 65 ls1793 []) := by
        intro  ls1793 H1792 locsH1792  hl1794 hTH1792 hSH1792 b1795 cy1796_0 cy1796_1 cy1796_2 cy1796_3 cy1796_4 cy1796_5 cy1796_6 cy1796_7 cy1796_8 fy1796_s_uq fy1796_s_sq fy1796_s_wq fy1796_s_fq fy1796_s_bq fy1796_s_cq fy1796_s_dq iv65 hsp65 ha65 hb65 hc65
        refine lv_aload_n hx hb dX6_told_65 rfl (lv_at hl1794 0 rfl) ?_
        refine lv_aload_n hx hb dX6_told_66 rfl (lv_at hl1794 1 rfl) ?_
        refine lv_aload_n hx hb dX6_told_67 rfl (lv_at hl1794 1 rfl) ?_
        refine x_gr C hTH1792 (ci := 7) (k := 5) rfl inX7 (by decide) wF_X6_68 ga1 rg_16 rfl dX6_told_68 (fun q1797 eq1797 gq1797 => ?_)
        have uq1797 : bq = q1797 := (cy1796_5).trans eq1797.symm
        subst uq1797
        refine lv_iload hx hb dX6_told_71 (lv_at hl1794 3 rfl) ?_
        refine x_ai C hTH1792 gbq rg_21 ⟨by omega, by show _ < ((16 : Nat) : Int); omega⟩ dX6_told_73 (fun x1798 ex1798 bx1798 => ?_)
        refine lv_aload_n hx hb dX6_told_74 rfl (lv_at hl1794 1 rfl) ?_
        refine x_gr C hTH1792 (ci := 7) (k := 6) rfl inX7 (by decide) wF_X6_58 ga1 rg_16 rfl dX6_told_75 (fun q1799 eq1799 gq1799 => ?_)
        have uq1799 : cq = q1799 := (cy1796_6).trans eq1799.symm
        subst uq1799
        refine lv_iload hx hb dX6_told_78 (lv_at hl1794 3 rfl) ?_
        refine x_ai C hTH1792 gcq rg_22 ⟨by omega, by show _ < ((16 : Nat) : Int); omega⟩ dX6_told_80 (fun x1800 ex1800 bx1800 => ?_)
        have cn_x1790 := i_cl (x := x1790) (by omega)
        have cn_li := i_cl (x := li) (by omega)
        have qr1801 : fI s.heap bq x1790.toNatClampNeg = x1798 := ((fy1796_s_bq _).symm.trans ex1798.symm)
        have qr1802 : fI s.heap cq x1790.toNatClampNeg = x1800 := ((fy1796_s_cq _).symm.trans ex1800.symm)
        refine x_V (As := [.ref a1, .int x1798, .int x1800]) (rest := []) C (a_X6_value_v l K G H1792 (x1798) (x1800) hTH1792 ga0 ga1 (by omega) (by omega) guq cy1796_0 gtq cy1796_1 gsq cy1796_2 ((fun j h1 h2 => by rw [fy1796_s_sq j]; exact hy0 x1790.toNatClampNeg (by omega) j (Or.inl ⟨by rw [qr1801]; exact h1, by rw [qr1802]; exact h2⟩)))) yo_X6_value wM_X6_64 ⟨⟨by decide, by decide⟩, by decide, by decide⟩ (x_rv C hTH1792 (ci := 6) rfl ga0 rg_82) rfl hl1794.1 rfl (Nat.le_of_ble_eq_true rfl) dX6_told_81 hSH1792 (AE_sub (fun _ _ => rfl) (by decide) hSH1792.1) (fun vH1803 H1803 locsH1803 pH1803 zH1803 kH1803 hSH1803 => ?_)
        obtain ⟨x1804, hvH1803, m1805, hTH1803⟩ := pH1803
        subst hvH1803
        have f1806 : ∀ j : Nat, fI H1803 uq j = fI s.heap uq j := fun j => (fI_kept (x_lt hTH1792 kH1803 guq (by decide))).trans (fy1796_s_uq j)
        have f1807 : ∀ j : Nat, fI H1803 sq j = fI s.heap sq j := fun j => (fI_kept (x_lt hTH1792 kH1803 gsq (by decide))).trans (fy1796_s_sq j)
        have f1808 : ∀ j : Nat, fI H1803 wq j = fI s.heap wq j := fun j => (fI_kept (x_lt hTH1792 kH1803 gwq (by decide))).trans (fy1796_s_wq j)
        have f1809 : ∀ j : Nat, fI H1803 fq j = fI s.heap fq j := fun j => (fI_kept (x_lt hTH1792 kH1803 gfq (by decide))).trans (fy1796_s_fq j)
        have f1810 : ∀ j : Nat, fI H1803 bq j = fI s.heap bq j := fun j => (fI_kept (x_lt hTH1792 kH1803 gbq (by decide))).trans (fy1796_s_bq j)
        have f1811 : ∀ j : Nat, fI H1803 cq j = fI s.heap cq j := fun j => (fI_kept (x_lt hTH1792 kH1803 gcq (by decide))).trans (fy1796_s_cq j)
        have f1812 : ∀ j : Nat, fI H1803 dq j = fI s.heap dq j := fun j => (fI_kept (x_lt hTH1792 kH1803 gdq (by decide))).trans (fy1796_s_dq j)
        have m1813 := (cy1796_0).trans (fR_kept (x_lt hTH1792 kH1803 ga0 (by decide))).symm
        have m1814 := (cy1796_1).trans (fR_kept (x_lt hTH1792 kH1803 ga0 (by decide))).symm
        have m1815 := (cy1796_2).trans (fR_kept (x_lt hTH1792 kH1803 ga1 (by decide))).symm
        have m1816 := (cy1796_3).trans (fR_kept (x_lt hTH1792 kH1803 ga1 (by decide))).symm
        have m1817 := (cy1796_4).trans (fR_kept (x_lt hTH1792 kH1803 ga1 (by decide))).symm
        have m1818 := (cy1796_5).trans (fR_kept (x_lt hTH1792 kH1803 ga1 (by decide))).symm
        have m1819 := (cy1796_6).trans (fR_kept (x_lt hTH1792 kH1803 ga1 (by decide))).symm
        have m1820 := (cy1796_7).trans (fR_kept (x_lt hTH1792 kH1803 ga1 (by decide))).symm
        have m1821 := (cy1796_8).trans (fI_kept (x_lt hTH1792 kH1803 ga1 (by decide))).symm
        have m1822 := (ex1798).trans (fI_kept (x_lt hTH1792 kH1803 gbq (by decide))).symm
        have m1823 := (ex1800).trans (fI_kept (x_lt hTH1792 kH1803 gcq (by decide))).symm
        have cn_x1790 := i_cl (x := x1790) (by omega)
        have cn_li := i_cl (x := li) (by omega)
        have qr1824 : fI s.heap bq x1790.toNatClampNeg = x1798 := ((fy1796_s_bq _).symm.trans ex1798.symm)
        have qr1825 : fI s.heap cq x1790.toNatClampNeg = x1800 := ((fy1796_s_cq _).symm.trans ex1800.symm)
        have hv1826 : x1804 = fs x1790.toNatClampNeg := vl_at m1805 fy1796_s_uq fy1796_s_sq (congrArg Int32.toNatClampNeg qr1824.symm) (congrArg Int32.toNatClampNeg qr1825.symm) (hy1 x1790.toNatClampNeg (by omega))
        refine W.eq (g2 := F0 m 84 ls1793 [.int x1804]) rfl ?_
        refine lv_istore (lv' := [(5, .int x1804), (0, .ref a0), (1, .ref a1), (2, .int x2), (4, .int x1790)]) hx hb dX6_told_84 hl1794 (by decide) rfl (fun ls1827 hl1828 => ?_)
        refine lv_iload_n hx hb dX6_told_86 rfl (lv_at hl1828 3 rfl) ?_
        refine lv_iconst (v := 1) hx hb dX6_told_87 (by decide) ?_
        refine lv_icmp_gt (tgt := 105) hx hb dX6_told_88 (by decide) (fun c1829 => ?_) (fun c1829 => ?_)
        · have k1830 := i_lt c1829
          refine lv_sipush (v := (-9999)) hx hb dX6_told_105 (by decide) ?_
          refine lv_iload hx hb dX6_told_108 (lv_at hl1828 0 rfl) ?_
          refine lv_sipush (v := 9999) hx hb dX6_told_110 (by decide) ?_
          refine va_mmin hx hb (hml.trans hl1828.1.symm) hown (hts _ wM_X6_30) (hts _ wST_J9_min_7cf53) (hts _ wIN_J9) (hts _ wCD_J9_min_7cf53) (by decide) (Nat.le_of_ble_eq_true rfl) (by decide) (by decide) dX6_told_113 ?_
          refine lv_topi (fun x1831 ex1831 => ?_)
          have tx1831 := i_min ex1831
          refine va_mmax hx hb (hml.trans hl1828.1.symm) hown (hts _ wM_X6_72) (hts _ wST_J9_max_7cf53) (hts _ wIN_J9) (hts _ wCD_J9_max_7cf53) (by decide) (Nat.le_of_ble_eq_true rfl) (by decide) (by decide) dX6_told_116 ?_
          refine lv_topi (fun x1832 ex1832 => ?_)
          have tx1832 := i_max ex1832
          have cn_li := i_cl (x := li) (by omega)
          have cn_x1790 := i_cl (x := x1790) (by omega)
          exact x_iret C hQ dX6_told_119 hSH1803 (by decide) (by decide) (⟨x1832, rfl, (by rw [hsp65, tdA_y (by omega) ha65 hb65 hc65, ← hv1826]; unfold clT; (first | rw [if_pos (by omega)] | rw [if_neg (by omega)]); (repeat' split) <;> omega), hTH1803⟩)
        · have k1830 := i_nlt c1829
          refine lv_iconst (v := 0) hx hb dX6_told_91 (by decide) ?_
          refine lv_iload hx hb dX6_told_92 (lv_at hl1828 0 rfl) ?_
          refine lv_ldc (v := 99999) hx hb hown (hts _ wK_X6_71) dX6_told_94 ?_
          refine va_mmin hx hb (hml.trans hl1828.1.symm) hown (hts _ wM_X6_30) (hts _ wST_J9_min_7cf53) (hts _ wIN_J9) (hts _ wCD_J9_min_7cf53) (by decide) (Nat.le_of_ble_eq_true rfl) (by decide) (by decide) dX6_told_96 ?_
          refine lv_topi (fun x1833 ex1833 => ?_)
          have tx1833 := i_min ex1833
          refine va_mmax hx hb (hml.trans hl1828.1.symm) hown (hts _ wM_X6_72) (hts _ wST_J9_max_7cf53) (hts _ wIN_J9) (hts _ wCD_J9_max_7cf53) (by decide) (Nat.le_of_ble_eq_true rfl) (by decide) (by decide) dX6_told_99 ?_
          refine lv_topi (fun x1834 ex1834 => ?_)
          have tx1834 := i_max ex1834
          refine lv_goto (tgt := 119) hx hb dX6_told_102 (by decide) ?_
          have cn_li := i_cl (x := li) (by omega)
          have cn_x1790 := i_cl (x := x1790) (by omega)
          exact x_iret C hQ dX6_told_119 hSH1803 (by decide) (by decide) (⟨x1834, rfl, (by rw [hsp65, tdA_y (by omega) ha65 hb65 hc65, ← hv1826]; unfold clT; (first | rw [if_pos (by omega)] | rw [if_neg (by omega)]); (repeat' split) <;> omega), hTH1803⟩)
      refine lv_iload hx hb dX6_told_3 (lv_at hl1789 4 rfl) ?_
      refine lv_aload_n hx hb dX6_told_5 rfl (lv_at hl1789 1 rfl) ?_
      refine x_gi C hTH1787 (ci := 7) (k := 0) rfl inX7 (by decide) wF_X6_43 ga1 rg_16 rfl dX6_told_6 (fun x1835 ex1835 bx1835 => ?_)
      have ux1835 : li = x1835 := (cy1791_8).trans ex1835.symm
      subst ux1835
      refine lv_icmp_ge (tgt := 126) hx hb dX6_told_9 (by decide) (fun c1836 => ?_) (fun c1836 => ?_)
      · have k1837 := i_le c1836
        refine lv_iconst (v := 0) hx hb dX6_told_126 (by decide) ?_
        have cn_li := i_cl (x := li) (by omega)
        have cn_x1790 := i_cl (x := x1790) (by omega)
        exact x_iret C hQ dX6_told_127 hSH1787 (by decide) (by decide) (⟨0, rfl, (by rw [hsp3, tdA_0 (by omega)]; rfl), hTH1787⟩)
      · have k1837 := i_nle c1836
        refine lv_aload_n hx hb dX6_told_12 rfl (lv_at hl1789 1 rfl) ?_
        refine x_gr C hTH1787 (ci := 7) (k := 1) rfl inX7 (by decide) wF_X6_48 ga1 rg_16 rfl dX6_told_13 (fun q1838 eq1838 gq1838 => ?_)
        have uq1838 : wq = q1838 := (cy1791_3).trans eq1838.symm
        subst uq1838
        refine lv_iload hx hb dX6_told_16 (lv_at hl1789 4 rfl) ?_
        refine x_ai C hTH1787 gwq rg_17 ⟨by omega, by show _ < ((16 : Nat) : Int); omega⟩ dX6_told_18 (fun x1839 ex1839 bx1839 => ?_)
        refine lv_iload_n hx hb dX6_told_19 rfl (lv_at hl1789 2 rfl) ?_
        refine lv_icmp_ne (tgt := 120) hx hb dX6_told_20 (by decide) (fun c1840 => ?_) (fun c1840 => ?_)
        · have k1841 := i_ne c1840
          obtain ⟨x1842, ex1842⟩ : ∃ y : Int32, y = x1790 + 1 := ⟨_, rfl⟩
          have tx1842 := i_add ex1842 (by omega)
          refine lv_iinc (v := x1842) (lv' := [(4, .int x1842), (0, .ref a0), (1, .ref a1), (2, .int x2), (3, .int x3)]) hx hb dX6_told_120 hl1789 (k := 4) rfl (by rw [ex1842]; rfl) (by decide) rfl (fun ls1843 hl1844 => ?_)
          refine lv_goto (tgt := 3) hx hb dX6_told_123 (by decide) ?_
          have cn_li := i_cl (x := li) (by omega)
          have cn_x1790 := i_cl (x := x1790) (by omega)
          have cn_x1842 := i_cl (x := x1842) (by omega)
          have qr1845 : fI s.heap wq x1790.toNatClampNeg = x1839 := ((fy1791_s_wq _).symm.trans ex1839.symm)
          exact ih3  ls1843 H1787 locsH1787 (x1842) (lv_sub hl1844 [1, 2, 3, 4, 0] rfl) hTH1787 hSH1787 (by have := i_rng x1842; omega) cy1791_0 cy1791_1 cy1791_2 cy1791_3 cy1791_4 cy1791_5 cy1791_6 cy1791_7 cy1791_8 fy1791_s_uq fy1791_s_sq fy1791_s_wq fy1791_s_fq fy1791_s_bq fy1791_s_cq fy1791_s_dq (by omega) (hsp3.trans (tdA_n (g := li.toNatClampNeg - x1842.toNatClampNeg) (by omega) (by omega) (Or.inl (by rw [qr1845]; omega))))
        · have k1841 := i_eq c1840
          have qr1846 : fI s.heap wq x1790.toNatClampNeg = x1839 := ((fy1791_s_wq _).symm.trans ex1839.symm)
          have ha_ : (fI s.heap wq x1790.toNatClampNeg).toInt = x2.toInt := by rw [qr1846]; omega
          refine lv_aload_n hx hb dX6_told_23 rfl (lv_at hl1789 1 rfl) ?_
          refine x_gr C hTH1787 (ci := 7) (k := 2) rfl inX7 (by decide) wF_X6_51 ga1 rg_16 rfl dX6_told_24 (fun q1847 eq1847 gq1847 => ?_)
          have uq1847 : fq = q1847 := (cy1791_4).trans eq1847.symm
          subst uq1847
          refine lv_iload hx hb dX6_told_27 (lv_at hl1789 4 rfl) ?_
          refine x_ai C hTH1787 gfq rg_18 ⟨by omega, by show _ < ((16 : Nat) : Int); omega⟩ dX6_told_29 (fun x1848 ex1848 bx1848 => ?_)
          refine lv_iload_n hx hb dX6_told_30 rfl (lv_at hl1789 3 rfl) ?_
          refine lv_icmp_ne (tgt := 120) hx hb dX6_told_31 (by decide) (fun c1849 => ?_) (fun c1849 => ?_)
          · have k1850 := i_ne c1849
            obtain ⟨x1851, ex1851⟩ : ∃ y : Int32, y = x1790 + 1 := ⟨_, rfl⟩
            have tx1851 := i_add ex1851 (by omega)
            refine lv_iinc (v := x1851) (lv' := [(4, .int x1851), (0, .ref a0), (1, .ref a1), (2, .int x2), (3, .int x3)]) hx hb dX6_told_120 hl1789 (k := 4) rfl (by rw [ex1851]; rfl) (by decide) rfl (fun ls1852 hl1853 => ?_)
            refine lv_goto (tgt := 3) hx hb dX6_told_123 (by decide) ?_
            have cn_li := i_cl (x := li) (by omega)
            have cn_x1790 := i_cl (x := x1790) (by omega)
            have cn_x1851 := i_cl (x := x1851) (by omega)
            have qr1854 : fI s.heap fq x1790.toNatClampNeg = x1848 := ((fy1791_s_fq _).symm.trans ex1848.symm)
            exact ih3  ls1852 H1787 locsH1787 (x1851) (lv_sub hl1853 [1, 2, 3, 4, 0] rfl) hTH1787 hSH1787 (by have := i_rng x1851; omega) cy1791_0 cy1791_1 cy1791_2 cy1791_3 cy1791_4 cy1791_5 cy1791_6 cy1791_7 cy1791_8 fy1791_s_uq fy1791_s_sq fy1791_s_wq fy1791_s_fq fy1791_s_bq fy1791_s_cq fy1791_s_dq (by omega) (hsp3.trans (tdA_n (g := li.toNatClampNeg - x1851.toNatClampNeg) (by omega) (by omega) (Or.inr (Or.inl (by rw [qr1854]; omega)))))
          · have k1850 := i_eq c1849
            have qr1855 : fI s.heap fq x1790.toNatClampNeg = x1848 := ((fy1791_s_fq _).symm.trans ex1848.symm)
            have hb_ : (fI s.heap fq x1790.toNatClampNeg).toInt = x3.toInt := by rw [qr1855]; omega
            refine lv_aload_n hx hb dX6_told_34 rfl (lv_at hl1789 1 rfl) ?_
            refine lv_iload hx hb dX6_told_35 (lv_at hl1789 4 rfl) ?_
            refine x_V (As := [.int x1790]) (rest := []) C (a_X7_hasWhen_v l K G H1787 (x1790) hTH1787 ga1 (by omega) gcq cy1791_6 gdq cy1791_7) yo_X7_hasWhen wM_X6_54 ⟨⟨by decide, by decide⟩, by decide, by decide⟩ (x_rv C hTH1787 (ci := 7) rfl ga1 rg_16) rfl hl1789.1 rfl (Nat.le_of_ble_eq_true rfl) dX6_told_37 hSH1787 (AE_sub (fun _ _ => rfl) (by decide) hSH1787.1) (fun vH1856 H1856 locsH1856 pH1856 zH1856 kH1856 hSH1856 => ?_)
            obtain ⟨x1857, hvH1856, bx1857, m1858, hTH1856⟩ := pH1856
            subst hvH1856
            have f1859 : ∀ j : Nat, fI H1856 uq j = fI s.heap uq j := fun j => (fI_kept (x_lt hTH1787 kH1856 guq (by decide))).trans (fy1791_s_uq j)
            have f1860 : ∀ j : Nat, fI H1856 sq j = fI s.heap sq j := fun j => (fI_kept (x_lt hTH1787 kH1856 gsq (by decide))).trans (fy1791_s_sq j)
            have f1861 : ∀ j : Nat, fI H1856 wq j = fI s.heap wq j := fun j => (fI_kept (x_lt hTH1787 kH1856 gwq (by decide))).trans (fy1791_s_wq j)
            have f1862 : ∀ j : Nat, fI H1856 fq j = fI s.heap fq j := fun j => (fI_kept (x_lt hTH1787 kH1856 gfq (by decide))).trans (fy1791_s_fq j)
            have f1863 : ∀ j : Nat, fI H1856 bq j = fI s.heap bq j := fun j => (fI_kept (x_lt hTH1787 kH1856 gbq (by decide))).trans (fy1791_s_bq j)
            have f1864 : ∀ j : Nat, fI H1856 cq j = fI s.heap cq j := fun j => (fI_kept (x_lt hTH1787 kH1856 gcq (by decide))).trans (fy1791_s_cq j)
            have f1865 : ∀ j : Nat, fI H1856 dq j = fI s.heap dq j := fun j => (fI_kept (x_lt hTH1787 kH1856 gdq (by decide))).trans (fy1791_s_dq j)
            have m1866 := (cy1791_0).trans (fR_kept (x_lt hTH1787 kH1856 ga0 (by decide))).symm
            have m1867 := (cy1791_1).trans (fR_kept (x_lt hTH1787 kH1856 ga0 (by decide))).symm
            have m1868 := (cy1791_2).trans (fR_kept (x_lt hTH1787 kH1856 ga1 (by decide))).symm
            have m1869 := (cy1791_3).trans (fR_kept (x_lt hTH1787 kH1856 ga1 (by decide))).symm
            have m1870 := (cy1791_4).trans (fR_kept (x_lt hTH1787 kH1856 ga1 (by decide))).symm
            have m1871 := (cy1791_5).trans (fR_kept (x_lt hTH1787 kH1856 ga1 (by decide))).symm
            have m1872 := (cy1791_6).trans (fR_kept (x_lt hTH1787 kH1856 ga1 (by decide))).symm
            have m1873 := (cy1791_7).trans (fR_kept (x_lt hTH1787 kH1856 ga1 (by decide))).symm
            have m1874 := (cy1791_8).trans (fI_kept (x_lt hTH1787 kH1856 ga1 (by decide))).symm
            have m1875 := (ex1839).trans (fI_kept (x_lt hTH1787 kH1856 gwq (by decide))).symm
            have m1876 := (ex1848).trans (fI_kept (x_lt hTH1787 kH1856 gfq (by decide))).symm
            have hw1877 : ((x1857.toInt = 1 ∧ (fI s.heap cq x1790.toNatClampNeg).toInt < (fI s.heap dq x1790.toNatClampNeg).toInt) ∨ (x1857.toInt = 0 ∧ (fI s.heap dq x1790.toNatClampNeg).toInt ≤ (fI s.heap cq x1790.toNatClampNeg).toInt)) := by rw [← fy1791_s_cq x1790.toNatClampNeg, ← fy1791_s_dq x1790.toNatClampNeg]; exact m1858
            refine W.eq (g2 := F0 m 40 ls1788 [.int x1857]) rfl ?_
            refine lv_if_eq (tgt := 65) hx hb dX6_told_40 (by decide) (fun c1878 => ?_) (fun c1878 => ?_)
            · have k1879 := i_eq c1878
              exact J65  ls1788 H1856 locsH1856 (lv_sub hl1789 [0, 1, 2, 4] rfl) hTH1856 hSH1856 (by have := i_rng x1790; omega) m1866 m1867 m1868 m1869 m1870 m1871 m1872 m1873 m1874 f1859 f1860 f1861 f1862 f1863 f1864 f1865 (by omega) hsp3 ha_ hb_ (Or.inl (by omega))
            · have k1879 := i_ne c1878
              refine lv_aload_n hx hb dX6_told_43 rfl (lv_at hl1789 0 rfl) ?_
              refine lv_aload_n hx hb dX6_told_44 rfl (lv_at hl1789 1 rfl) ?_
              refine lv_aload_n hx hb dX6_told_45 rfl (lv_at hl1789 1 rfl) ?_
              refine x_gr C hTH1856 (ci := 7) (k := 6) rfl inX7 (by decide) wF_X6_58 ga1 rg_16 rfl dX6_told_46 (fun q1880 eq1880 gq1880 => ?_)
              have uq1880 : cq = q1880 := (m1872).trans eq1880.symm
              subst uq1880
              refine lv_iload hx hb dX6_told_49 (lv_at hl1789 4 rfl) ?_
              refine x_ai C hTH1856 gcq rg_22 ⟨by omega, by show _ < ((16 : Nat) : Int); omega⟩ dX6_told_51 (fun x1881 ex1881 bx1881 => ?_)
              refine lv_aload_n hx hb dX6_told_52 rfl (lv_at hl1789 1 rfl) ?_
              refine x_gr C hTH1856 (ci := 7) (k := 7) rfl inX7 (by decide) wF_X6_61 ga1 rg_16 rfl dX6_told_53 (fun q1882 eq1882 gq1882 => ?_)
              have uq1882 : dq = q1882 := (m1873).trans eq1882.symm
              subst uq1882
              refine lv_iload hx hb dX6_told_56 (lv_at hl1789 4 rfl) ?_
              refine x_ai C hTH1856 gdq rg_23 ⟨by omega, by show _ < ((16 : Nat) : Int); omega⟩ dX6_told_58 (fun x1883 ex1883 bx1883 => ?_)
              have cn_x1790 := i_cl (x := x1790) (by omega)
              have cn_li := i_cl (x := li) (by omega)
              have qr1884 : fI s.heap cq x1790.toNatClampNeg = x1881 := ((f1864 _).symm.trans ex1881.symm)
              have qr1885 : fI s.heap dq x1790.toNatClampNeg = x1883 := ((f1865 _).symm.trans ex1883.symm)
              refine x_V (As := [.ref a1, .int x1881, .int x1883]) (rest := []) C (a_X6_value_v l K G H1856 (x1881) (x1883) hTH1856 ga0 ga1 (by omega) (by omega) guq m1866 gtq m1867 gsq m1868 ((fun j h1 h2 => by rw [f1860 j]; exact hy0 x1790.toNatClampNeg (by omega) j (Or.inr ⟨by rw [qr1884]; exact h1, by rw [qr1885]; exact h2⟩)))) yo_X6_value wM_X6_64 ⟨⟨by decide, by decide⟩, by decide, by decide⟩ (x_rv C hTH1856 (ci := 6) rfl ga0 rg_82) rfl hl1789.1 rfl (Nat.le_of_ble_eq_true rfl) dX6_told_59 hSH1856 (AE_sub (fun _ _ => rfl) (by decide) hSH1856.1) (fun vH1886 H1886 locsH1886 pH1886 zH1886 kH1886 hSH1886 => ?_)
              obtain ⟨x1887, hvH1886, m1888, hTH1886⟩ := pH1886
              subst hvH1886
              have f1889 : ∀ j : Nat, fI H1886 uq j = fI s.heap uq j := fun j => (fI_kept (x_lt hTH1856 kH1886 guq (by decide))).trans (f1859 j)
              have f1890 : ∀ j : Nat, fI H1886 sq j = fI s.heap sq j := fun j => (fI_kept (x_lt hTH1856 kH1886 gsq (by decide))).trans (f1860 j)
              have f1891 : ∀ j : Nat, fI H1886 wq j = fI s.heap wq j := fun j => (fI_kept (x_lt hTH1856 kH1886 gwq (by decide))).trans (f1861 j)
              have f1892 : ∀ j : Nat, fI H1886 fq j = fI s.heap fq j := fun j => (fI_kept (x_lt hTH1856 kH1886 gfq (by decide))).trans (f1862 j)
              have f1893 : ∀ j : Nat, fI H1886 bq j = fI s.heap bq j := fun j => (fI_kept (x_lt hTH1856 kH1886 gbq (by decide))).trans (f1863 j)
              have f1894 : ∀ j : Nat, fI H1886 cq j = fI s.heap cq j := fun j => (fI_kept (x_lt hTH1856 kH1886 gcq (by decide))).trans (f1864 j)
              have f1895 : ∀ j : Nat, fI H1886 dq j = fI s.heap dq j := fun j => (fI_kept (x_lt hTH1856 kH1886 gdq (by decide))).trans (f1865 j)
              have m1896 := (m1866).trans (fR_kept (x_lt hTH1856 kH1886 ga0 (by decide))).symm
              have m1897 := (m1867).trans (fR_kept (x_lt hTH1856 kH1886 ga0 (by decide))).symm
              have m1898 := (m1868).trans (fR_kept (x_lt hTH1856 kH1886 ga1 (by decide))).symm
              have m1899 := (m1869).trans (fR_kept (x_lt hTH1856 kH1886 ga1 (by decide))).symm
              have m1900 := (m1870).trans (fR_kept (x_lt hTH1856 kH1886 ga1 (by decide))).symm
              have m1901 := (m1871).trans (fR_kept (x_lt hTH1856 kH1886 ga1 (by decide))).symm
              have m1902 := (m1872).trans (fR_kept (x_lt hTH1856 kH1886 ga1 (by decide))).symm
              have m1903 := (m1873).trans (fR_kept (x_lt hTH1856 kH1886 ga1 (by decide))).symm
              have m1904 := (m1874).trans (fI_kept (x_lt hTH1856 kH1886 ga1 (by decide))).symm
              have m1905 := (m1875).trans (fI_kept (x_lt hTH1856 kH1886 gwq (by decide))).symm
              have m1906 := (m1876).trans (fI_kept (x_lt hTH1856 kH1886 gfq (by decide))).symm
              have m1907 := (ex1881).trans (fI_kept (x_lt hTH1856 kH1886 gcq (by decide))).symm
              have m1908 := (ex1883).trans (fI_kept (x_lt hTH1856 kH1886 gdq (by decide))).symm
              have cn_x1790 := i_cl (x := x1790) (by omega)
              have cn_li := i_cl (x := li) (by omega)
              have qr1909 : fI s.heap cq x1790.toNatClampNeg = x1881 := ((f1864 _).symm.trans ex1881.symm)
              have qr1910 : fI s.heap dq x1790.toNatClampNeg = x1883 := ((f1865 _).symm.trans ex1883.symm)
              have hv1911 : x1887 = fw x1790.toNatClampNeg := vl_at m1888 f1859 f1860 (congrArg Int32.toNatClampNeg qr1909.symm) (congrArg Int32.toNatClampNeg qr1910.symm) (hy2 x1790.toNatClampNeg (by omega) (by omega))
              refine W.eq (g2 := F0 m 62 ls1788 [.int x1887]) rfl ?_
              refine lv_if_eq (tgt := 120) hx hb dX6_told_62 (by decide) (fun c1912 => ?_) (fun c1912 => ?_)
              · have k1913 := i_eq c1912
                obtain ⟨x1914, ex1914⟩ : ∃ y : Int32, y = x1790 + 1 := ⟨_, rfl⟩
                have tx1914 := i_add ex1914 (by omega)
                refine lv_iinc (v := x1914) (lv' := [(4, .int x1914), (0, .ref a0), (1, .ref a1), (2, .int x2), (3, .int x3)]) hx hb dX6_told_120 hl1789 (k := 4) rfl (by rw [ex1914]; rfl) (by decide) rfl (fun ls1915 hl1916 => ?_)
                refine lv_goto (tgt := 3) hx hb dX6_told_123 (by decide) ?_
                have cn_li := i_cl (x := li) (by omega)
                have cn_x1790 := i_cl (x := x1790) (by omega)
                have cn_x1914 := i_cl (x := x1914) (by omega)
                exact ih3  ls1915 H1886 locsH1886 (x1914) (lv_sub hl1916 [1, 2, 3, 4, 0] rfl) hTH1886 hSH1886 (by have := i_rng x1914; omega) m1896 m1897 m1898 m1899 m1900 m1901 m1902 m1903 m1904 f1889 f1890 f1891 f1892 f1893 f1894 f1895 (by omega) (hsp3.trans (tdA_n (g := li.toNatClampNeg - x1914.toNatClampNeg) (by omega) (by omega) (Or.inr (Or.inr ⟨by omega, by rw [← hv1911]; exact Int32.toInt_inj.mp (by omega)⟩))))
              · have k1913 := i_ne c1912
                exact J65  ls1788 H1886 locsH1886 (lv_sub hl1789 [0, 1, 2, 4] rfl) hTH1886 hSH1886 (by have := i_rng x1790; omega) m1896 m1897 m1898 m1899 m1900 m1901 m1902 m1903 m1904 f1889 f1890 f1891 f1892 f1893 f1894 f1895 (by omega) hsp3 ha_ hb_ (Or.inr (by rw [← hv1911]; exact fun z => by have := i_eq z; omega))
  refine lv_iconst (v := 0) hx hb dX6_told_0 (by decide) ?_
  refine lv_istore (lv' := [(4, .int 0), (0, .ref a0), (1, .ref a1), (2, .int x2), (3, .int x3)]) hx hb dX6_told_1 hl (by decide) rfl (fun ls1917 hl1918 => ?_)
  exact J3 ((16 - (0 : Int32).toInt).toNat + 1)  ls1917 s.heap [] (0) (lv_sub hl1918 [1, 2, 3, 4, 0] rfl) hT hS (by decide) euq etq esq ewq efq ebq ecq edq eli f0_s_uq f0_s_sq f0_s_wq f0_s_fq f0_s_bq f0_s_cq f0_s_dq (by omega) (by show tdA s.heap wq fq cq dq fs fw x2.toInt x3.toInt (li.toNatClampNeg) 0 = tdA s.heap wq fq cq dq fs fw x2.toInt x3.toInt (li.toNatClampNeg - 0) 0; rfl)
