set_option maxHeartbeats 4000000 in
set_option maxRecDepth 100000 in
/-- Arrays.fill(int[], int) of a typed array -/
theorem c_fill_v (l : Launch) (K : KE) (G : Nat → Option Nat) (H : Heap) {a t N : Nat} {lo hi : Int} (x1 : Int32) (hT : TY K G H) (ga : G a = some t) (hs : rgT[t]? = some (.inr (0, N, (0, lo, hi)))) (hN : N ≤ 100000) (hv : lo ≤ x1.toInt ∧ x1.toInt ≤ hi) : MX l K yJ7_fill_53178 cJ7_fill_53178 4 none 0 0 0 0 [.ref a, .int x1] H (AE G [t] H.size) (fun v H1 => v = none ∧ TY K G H1 ∧ (∀ j : Nat, j < N → fI H1 a j = x1) ∧ ∀ q u : Nat, G q = some u → q ≠ a → H1[q]? = H[q]?) := by
  refine MX.of (by decide +kernel) (Nat.le_of_ble_eq_true rfl) ?_
  intro p e s m below meth c ls Q C hH hl hQ
  subst hH
  have C : CX p K s m _ meth c RJ7 cJ7_fill_53178 4 none "fill" := C
  obtain ⟨hx, hb, hml, hown, hts, hKT, hr, hlocks, hnm⟩ := id C
  have hl : lv_has ls 4 [(0, .ref a), (1, .int x1)] := hl
  have hS : va_S (AE G [t] s.heap.size) s.heap s.heap [] := va_S.rf
  have n_0 : (0 : Int32).toInt = 0 := rfl
  have n_1 : (1 : Int32).toInt = 1 := rfl
  refine lv_iconst (v := 0) hx hb dJ7_fill_53178_0 (by decide) ?_
  refine lv_istore_n (lv' := [(2, .int 0), (0, .ref a), (1, .int x1)]) hx hb dJ7_fill_53178_1 rfl hl (by decide) rfl (fun ls2 hl2 => ?_)
  refine lv_aload_n hx hb dJ7_fill_53178_2 rfl (lv_at hl2 1 rfl) ?_
  refine x_alen C hT rfl ga hs rfl dJ7_fill_53178_3 ?_
  have eN : (Int32.ofNat N).toInt = N := nI_toInt (n := N) (by omega)
  refine lv_topi (fun x3 e3 => ?_)
  rw [← e3] at eN
  refine lv_istore_n (lv' := [(3, .int x3), (2, .int 0), (0, .ref a), (1, .int x1)]) hx hb dJ7_fill_53178_4 rfl hl2 (by decide) rfl (fun ls3 hl3 => ?_)
  have Lp : ∀ (nf : Nat) (ls : Array Slot) (H : Heap) (locs : List Loc) (x2 : Int32), lv_has ls 4 [(3, .int x3), (2, .int x2), (0, .ref a), (1, .int x1)] → TY K G H → va_S (AE G [t] s.heap.size) s.heap H locs → (0 ≤ x2.toInt ∧ x2.toInt ≤ N) → (∀ j : Nat, (j : Int) < x2.toInt → fI H a j = x1) → (∀ q u : Nat, G q = some u → q ≠ a → H[q]? = s.heap[q]?) → (N - x2.toInt < (nf : Int)) → W p l e ({ frames := 0, cells := 0, slots := 0, locals := 0 } : Room) s m (([.ref a, .int x1] : List Value).toArray) below meth c H locs 0 0 Q (F0 m 5 ls []) := by
    intro nf
    induction nf with
    | zero => intro ls H locs x2 hl hT hS b2 hi hf hm; exfalso; omega
    | succ nf ih =>
      intro ls H locs x2 hl hT hS b2 hi hf hm
      refine lv_iload_n hx hb dJ7_fill_53178_5 rfl (lv_at hl 1 rfl) ?_
      refine lv_iload_n hx hb dJ7_fill_53178_6 rfl (lv_at hl 0 rfl) ?_
      refine lv_icmp_ge (tgt := 20) hx hb dJ7_fill_53178_7 (by decide) (fun c1 => ?_) (fun c1 => ?_)
      · have k1 := i_le c1
        exact x_vret C hQ dJ7_fill_53178_20 hS (by decide) (by decide) ⟨rfl, hT, fun j hj => hi j (by omega), hf⟩
      · have k1 := i_nle c1
        refine lv_aload_n hx hb dJ7_fill_53178_10 rfl (lv_at hl 2 rfl) ?_
        refine lv_iload_n hx hb dJ7_fill_53178_11 rfl (lv_at hl 1 rfl) ?_
        refine lv_iload_n hx hb dJ7_fill_53178_12 rfl (lv_at hl 3 rfl) ?_
        refine x_iast C hT hS ga hs (by omega) (by omega) hv (AE_in ga (by simp)) dJ7_fill_53178_13 (fun H1 locs1 hT1 hS1 w1 => ?_)
        obtain ⟨x9, e9⟩ : ∃ y : Int32, y = x2 + 1 := ⟨_, rfl⟩
        have t9 := i_add e9 (by omega)
        refine lv_iinc (v := x9) (lv' := [(2, .int x9), (3, .int x3), (0, .ref a), (1, .int x1)]) hx hb dJ7_fill_53178_14 hl (k := 1) rfl (by rw [e9]; rfl) (by decide) rfl (fun ls4 hl4 => ?_)
        refine lv_goto (tgt := 5) hx hb dJ7_fill_53178_17 (by decide) ?_
        refine ih ls4 H1 locs1 x9 (lv_sub hl4 [1, 0, 2, 3] rfl) hT1 hS1 (by omega) (fun j hj => ?_) (fun q u hq hn => (w1.off hn).trans (hf q u hq hn)) (by omega)
        have ec := i_cl b2.1
        by_cases ej : j = x2.toNatClampNeg
        · subst ej
          exact w1.I
        · rw [w1.neI (Or.inr ej)]
          exact hi j (by omega)
  exact Lp ((N - (0 : Int32).toInt).toNat + 1) ls3 s.heap [] 0 hl3 hT hS (by omega) (fun j hj => by omega) (fun _ _ _ _ => rfl) (by omega)
set_option maxHeartbeats 4000000 in
set_option maxRecDepth 100000 in
theorem a_X0_begin_v (l : Launch) (K : KE) (G : Nat → Option Nat) (H : Heap) {a0 : Nat} (x1 : Int32) {kq : Nat} {gnq : Nat} {hvq : Nat} {xq : Nat} {gq : Nat} {tbq : Nat} (hT : TY K G H) (ga0 : G a0 = some 1) (hx1 : 3 ≤ x1.toInt ∧ x1.toInt ≤ 16) (gkq : G kq = some 2) (ekq : kq = fR H a0 (K.1.2 0 1)) (ggnq : G gnq = some 3) (egnq : gnq = fR H a0 (K.1.2 0 2)) (ghvq : G hvq = some 4) (ehvq : hvq = fR H a0 (K.1.2 0 3)) (gxq : G xq = some 5) (exq : xq = fR H a0 (K.1.2 0 4)) (ggq : G gq = some 6) (egq : gq = fR H a0 (K.1.2 0 5)) (gtbq : G tbq = some 15) (etbq : tbq = fR H a0 (K.1.2 0 17)) : MX l K yX0_begin cX0_begin 2 none 1 23 0 0 [.ref a0, .int x1] H (AE G [1, 2, 3, 4, 5, 6, 15] H.size) (fun v H1 => v = none ∧ kq = fR H1 a0 (K.1.2 0 1) ∧ gnq = fR H1 a0 (K.1.2 0 2) ∧ hvq = fR H1 a0 (K.1.2 0 3) ∧ xq = fR H1 a0 (K.1.2 0 4) ∧ gq = fR H1 a0 (K.1.2 0 5) ∧ tbq = fR H1 a0 (K.1.2 0 17) ∧ (NewV (vwC K H1 a0) x1.toInt) ∧ (∀ q t : Nat, G q = some t → q ≠ a0 → q ≠ kq → q ≠ gnq → q ≠ hvq → q ≠ xq → q ≠ gq → q ≠ tbq → H1[q]? = H[q]?) ∧ (RFB K H1 H a0) ∧ TY K G H1) := by
  refine MX.of (by decide +kernel) (Nat.le_of_ble_eq_true rfl) ?_
  intro p e s m below meth c ls Q C hH hl hQ
  subst hH
  have C : CX p K s m _ meth c RX0 cX0_begin 2 none "begin" := C
  obtain ⟨hx, hb, hml, hown, hts, hKT, hr, hlocks, hnm⟩ := id C
  have hl : lv_has ls 2 [(0, .ref a0), (1, .int x1)] := hl
  have hS : va_S (AE G [1, 2, 3, 4, 5, 6, 15] s.heap.size) s.heap s.heap [] := va_S.rf
  have n_m1 : ((-1) : Int32).toInt = -1 := rfl
  have n_0 : (0 : Int32).toInt = 0 := rfl
  have n_5 : (5 : Int32).toInt = 5 := rfl
  have n_20 : (20 : Int32).toInt = 20 := rfl
  have n_500 : (500 : Int32).toInt = 500 := rfl
  have hapB : ∀ x y, x < 18 → y < 18 → x ≠ y → K.1.2 0 x ≠ K.1.2 0 y := x_apart hKT hts inX0 tyX0 tyX0_ok nmX0 rfl
  have f0_fx : ∀ q t : Nat, G q = some t → q ≠ a0 → q ≠ kq → q ≠ gnq → q ≠ hvq → q ≠ xq → q ≠ gq → q ≠ tbq → s.heap[q]? = s.heap[q]? := fun _ _ _ _ _ _ _ _ _ _ => rfl
  have f0_rb : RFB K s.heap s.heap a0 := RFB.rf
  refine lv_aload_n hx hb dX0_begin_0 rfl (lv_at hl 0 rfl) ?_
  refine lv_iload_n hx hb dX0_begin_1 rfl (lv_at hl 1 rfl) ?_
  refine x_put C hT hS (ci := 0) (k := 0) (v := .int x1) (ty0 := tyX0) rfl inX0 tyX0_ok nmX0 (by decide) rfl wF_X0_50 ga0 rg_1 rfl rfl (okI (by have := i_rng x1; omega) (by have := i_rng x1; omega)) rfl rfl (AE_in ga0 (by decide)) dX0_begin_2 (fun H821 locsH821 hTH821 hSH821 wH821 => ?_)
  have f822 : ∀ q t : Nat, G q = some t → q ≠ a0 → q ≠ kq → q ≠ gnq → q ≠ hvq → q ≠ xq → q ≠ gq → q ≠ tbq → H821[q]? = s.heap[q]? := (fun q t hq  n1 n2 n3 n4 n5 n6 n7 => (wH821.off n1).trans (f0_fx q t hq  n1 n2 n3 n4 n5 n6 n7))
  have f823 : RFB K H821 s.heap a0 := RFB.st f0_rb (fun k hk => Wr.neR wH821 (Or.inr (hapB k _ (by omega) (by decide) (by omega))))
  have m824 := ekq.trans (Wr.neR wH821 (Or.inr (x_apart hKT hts inX0 tyX0 tyX0_ok nmX0 rfl 1 0 (by decide) (by decide) (by decide)))).symm
  have m825 := egnq.trans (Wr.neR wH821 (Or.inr (x_apart hKT hts inX0 tyX0 tyX0_ok nmX0 rfl 2 0 (by decide) (by decide) (by decide)))).symm
  have m826 := ehvq.trans (Wr.neR wH821 (Or.inr (x_apart hKT hts inX0 tyX0 tyX0_ok nmX0 rfl 3 0 (by decide) (by decide) (by decide)))).symm
  have m827 := exq.trans (Wr.neR wH821 (Or.inr (x_apart hKT hts inX0 tyX0 tyX0_ok nmX0 rfl 4 0 (by decide) (by decide) (by decide)))).symm
  have m828 := egq.trans (Wr.neR wH821 (Or.inr (x_apart hKT hts inX0 tyX0 tyX0_ok nmX0 rfl 5 0 (by decide) (by decide) (by decide)))).symm
  have m829 := etbq.trans (Wr.neR wH821 (Or.inr (x_apart hKT hts inX0 tyX0 tyX0_ok nmX0 rfl 17 0 (by decide) (by decide) (by decide)))).symm
  have m830 := Wr.I wH821
  have m830 := m830.symm
  refine lv_aload_n hx hb dX0_begin_5 rfl (lv_at hl 0 rfl) ?_
  refine x_gr C hTH821 (ci := 0) (k := 1) rfl inX0 (by decide) wF_X0_9 ga0 rg_1 rfl dX0_begin_6 (fun q831 eq831 gq831 => ?_)
  have uq831 : kq = q831 := (m824).trans eq831.symm
  subst uq831
  refine lv_bipush (v := 20) hx hb dX0_begin_9 (by decide) ?_
  refine x_S (As := [.ref kq, .int 20]) (rest := []) C (c_fill_v l K G H821 (20) hTH821 gkq rg_2 (by decide) ⟨by have := i_rng (20 : Int32); omega, by have := i_rng (20 : Int32); omega⟩) yo_J7_fill_53178 wM_X0_54 ⟨⟨by decide, by decide⟩, by decide, by decide⟩ rfl hl.1 rfl (Nat.le_of_ble_eq_true rfl) dX0_begin_11 hSH821 (AE_sub (fun _ _ => rfl) (by decide) hSH821.1) (fun vH832 H832 locsH832 pH832 zH832 kH832 hSH832 => ?_)
  have hfH832 := pH832.2.2.1
  have hgH832 := pH832.2.2.2
  have hTH832 := pH832.2.1
  have hvH832 := pH832.1
  subst hvH832
  have f833 : RFB K H832 s.heap a0 := RFB.st f823 (fun k hk => fR_kept (x_lt hTH821 kH832 ga0 (by decide)))
  have m834 := (m824).trans (fR_kept (x_lt hTH821 kH832 ga0 (by decide))).symm
  have m835 := (m825).trans (fR_kept (x_lt hTH821 kH832 ga0 (by decide))).symm
  have m836 := (m826).trans (fR_kept (x_lt hTH821 kH832 ga0 (by decide))).symm
  have m837 := (m827).trans (fR_kept (x_lt hTH821 kH832 ga0 (by decide))).symm
  have m838 := (m828).trans (fR_kept (x_lt hTH821 kH832 ga0 (by decide))).symm
  have m839 := (m829).trans (fR_kept (x_lt hTH821 kH832 ga0 (by decide))).symm
  have m840 := (m830).trans (fI_kept (x_lt hTH821 kH832 ga0 (by decide))).symm
  refine W.eq (g2 := F0 m 14 ls []) rfl ?_
  have f841 : ∀ q t : Nat, G q = some t → q ≠ a0 → q ≠ kq → q ≠ gnq → q ≠ hvq → q ≠ xq → q ≠ gq → q ≠ tbq → H832[q]? = s.heap[q]? := fun q t hq n1 n2 n3 n4 n5 n6 n7 => (hgH832 q t hq n2).trans (f822 q t hq n1 n2 n3 n4 n5 n6 n7)
  refine lv_aload_n hx hb dX0_begin_14 rfl (lv_at hl 0 rfl) ?_
  refine x_gr C hTH832 (ci := 0) (k := 2) rfl inX0 (by decide) wF_X0_15 ga0 rg_1 rfl dX0_begin_15 (fun q842 eq842 gq842 => ?_)
  have uq842 : gnq = q842 := (m835).trans eq842.symm
  subst uq842
  refine lv_iconst (v := 5) hx hb dX0_begin_18 (by decide) ?_
  refine x_S (As := [.ref gnq, .int 5]) (rest := []) C (c_fill_v l K G H832 (5) hTH832 ggnq rg_3 (by decide) ⟨by have := i_rng (5 : Int32); omega, by have := i_rng (5 : Int32); omega⟩) yo_J7_fill_53178 wM_X0_54 ⟨⟨by decide, by decide⟩, by decide, by decide⟩ rfl hl.1 rfl (Nat.le_of_ble_eq_true rfl) dX0_begin_19 hSH832 (AE_sub (fun _ _ => rfl) (by decide) hSH832.1) (fun vH843 H843 locsH843 pH843 zH843 kH843 hSH843 => ?_)
  have hfH843 := pH843.2.2.1
  have hgH843 := pH843.2.2.2
  have hTH843 := pH843.2.1
  have hvH843 := pH843.1
  subst hvH843
  have f844 : RFB K H843 s.heap a0 := RFB.st f833 (fun k hk => fR_kept (x_lt hTH832 kH843 ga0 (by decide)))
  have f845 : ∀ j : Nat, j < 16 → fI H843 kq j = 20 := fun j hj => (fI_kept (x_lt hTH832 kH843 gkq (by decide))).trans (hfH832 j hj)
  have m846 := (m834).trans (fR_kept (x_lt hTH832 kH843 ga0 (by decide))).symm
  have m847 := (m835).trans (fR_kept (x_lt hTH832 kH843 ga0 (by decide))).symm
  have m848 := (m836).trans (fR_kept (x_lt hTH832 kH843 ga0 (by decide))).symm
  have m849 := (m837).trans (fR_kept (x_lt hTH832 kH843 ga0 (by decide))).symm
  have m850 := (m838).trans (fR_kept (x_lt hTH832 kH843 ga0 (by decide))).symm
  have m851 := (m839).trans (fR_kept (x_lt hTH832 kH843 ga0 (by decide))).symm
  have m852 := (m840).trans (fI_kept (x_lt hTH832 kH843 ga0 (by decide))).symm
  refine W.eq (g2 := F0 m 22 ls []) rfl ?_
  have f853 : ∀ q t : Nat, G q = some t → q ≠ a0 → q ≠ kq → q ≠ gnq → q ≠ hvq → q ≠ xq → q ≠ gq → q ≠ tbq → H843[q]? = s.heap[q]? := fun q t hq n1 n2 n3 n4 n5 n6 n7 => (hgH843 q t hq n3).trans (f841 q t hq n1 n2 n3 n4 n5 n6 n7)
  refine lv_aload_n hx hb dX0_begin_22 rfl (lv_at hl 0 rfl) ?_
  refine x_gr C hTH843 (ci := 0) (k := 3) rfl inX0 (by decide) wF_X0_18 ga0 rg_1 rfl dX0_begin_23 (fun q854 eq854 gq854 => ?_)
  have uq854 : hvq = q854 := (m848).trans eq854.symm
  subst uq854
  refine lv_iconst (v := 5) hx hb dX0_begin_26 (by decide) ?_
  refine x_S (As := [.ref hvq, .int 5]) (rest := []) C (c_fill_v l K G H843 (5) hTH843 ghvq rg_4 (by decide) ⟨by have := i_rng (5 : Int32); omega, by have := i_rng (5 : Int32); omega⟩) yo_J7_fill_53178 wM_X0_54 ⟨⟨by decide, by decide⟩, by decide, by decide⟩ rfl hl.1 rfl (Nat.le_of_ble_eq_true rfl) dX0_begin_27 hSH843 (AE_sub (fun _ _ => rfl) (by decide) hSH843.1) (fun vH855 H855 locsH855 pH855 zH855 kH855 hSH855 => ?_)
  have hfH855 := pH855.2.2.1
  have hgH855 := pH855.2.2.2
  have hTH855 := pH855.2.1
  have hvH855 := pH855.1
  subst hvH855
  have f856 : RFB K H855 s.heap a0 := RFB.st f844 (fun k hk => fR_kept (x_lt hTH843 kH855 ga0 (by decide)))
  have f857 : ∀ j : Nat, j < 16 → fI H855 kq j = 20 := fun j hj => (fI_kept (x_lt hTH843 kH855 gkq (by decide))).trans (f845 j hj)
  have f858 : ∀ j : Nat, j < 16 → fI H855 gnq j = 5 := fun j hj => (fI_kept (x_lt hTH843 kH855 ggnq (by decide))).trans (hfH843 j hj)
  have m859 := (m846).trans (fR_kept (x_lt hTH843 kH855 ga0 (by decide))).symm
  have m860 := (m847).trans (fR_kept (x_lt hTH843 kH855 ga0 (by decide))).symm
  have m861 := (m848).trans (fR_kept (x_lt hTH843 kH855 ga0 (by decide))).symm
  have m862 := (m849).trans (fR_kept (x_lt hTH843 kH855 ga0 (by decide))).symm
  have m863 := (m850).trans (fR_kept (x_lt hTH843 kH855 ga0 (by decide))).symm
  have m864 := (m851).trans (fR_kept (x_lt hTH843 kH855 ga0 (by decide))).symm
  have m865 := (m852).trans (fI_kept (x_lt hTH843 kH855 ga0 (by decide))).symm
  refine W.eq (g2 := F0 m 30 ls []) rfl ?_
  have f866 : ∀ q t : Nat, G q = some t → q ≠ a0 → q ≠ kq → q ≠ gnq → q ≠ hvq → q ≠ xq → q ≠ gq → q ≠ tbq → H855[q]? = s.heap[q]? := fun q t hq n1 n2 n3 n4 n5 n6 n7 => (hgH855 q t hq n4).trans (f853 q t hq n1 n2 n3 n4 n5 n6 n7)
  refine lv_aload_n hx hb dX0_begin_30 rfl (lv_at hl 0 rfl) ?_
  refine x_gr C hTH855 (ci := 0) (k := 4) rfl inX0 (by decide) wF_X0_21 ga0 rg_1 rfl dX0_begin_31 (fun q867 eq867 gq867 => ?_)
  have uq867 : xq = q867 := (m862).trans eq867.symm
  subst uq867
  refine lv_iconst (v := 0) hx hb dX0_begin_34 (by decide) ?_
  refine x_S (As := [.ref xq, .int 0]) (rest := []) C (c_fill_v l K G H855 (0) hTH855 gxq rg_5 (by decide) ⟨by have := i_rng (0 : Int32); omega, by have := i_rng (0 : Int32); omega⟩) yo_J7_fill_53178 wM_X0_54 ⟨⟨by decide, by decide⟩, by decide, by decide⟩ rfl hl.1 rfl (Nat.le_of_ble_eq_true rfl) dX0_begin_35 hSH855 (AE_sub (fun _ _ => rfl) (by decide) hSH855.1) (fun vH868 H868 locsH868 pH868 zH868 kH868 hSH868 => ?_)
  have hfH868 := pH868.2.2.1
  have hgH868 := pH868.2.2.2
  have hTH868 := pH868.2.1
  have hvH868 := pH868.1
  subst hvH868
  have f869 : RFB K H868 s.heap a0 := RFB.st f856 (fun k hk => fR_kept (x_lt hTH855 kH868 ga0 (by decide)))
  have f870 : ∀ j : Nat, j < 16 → fI H868 kq j = 20 := fun j hj => (fI_kept (x_lt hTH855 kH868 gkq (by decide))).trans (f857 j hj)
  have f871 : ∀ j : Nat, j < 16 → fI H868 gnq j = 5 := fun j hj => (fI_kept (x_lt hTH855 kH868 ggnq (by decide))).trans (f858 j hj)
  have f872 : ∀ j : Nat, j < 16 → fI H868 hvq j = 5 := fun j hj => (fI_kept (x_lt hTH855 kH868 ghvq (by decide))).trans (hfH855 j hj)
  have m873 := (m859).trans (fR_kept (x_lt hTH855 kH868 ga0 (by decide))).symm
  have m874 := (m860).trans (fR_kept (x_lt hTH855 kH868 ga0 (by decide))).symm
  have m875 := (m861).trans (fR_kept (x_lt hTH855 kH868 ga0 (by decide))).symm
  have m876 := (m862).trans (fR_kept (x_lt hTH855 kH868 ga0 (by decide))).symm
  have m877 := (m863).trans (fR_kept (x_lt hTH855 kH868 ga0 (by decide))).symm
  have m878 := (m864).trans (fR_kept (x_lt hTH855 kH868 ga0 (by decide))).symm
  have m879 := (m865).trans (fI_kept (x_lt hTH855 kH868 ga0 (by decide))).symm
  refine W.eq (g2 := F0 m 38 ls []) rfl ?_
  have f880 : ∀ q t : Nat, G q = some t → q ≠ a0 → q ≠ kq → q ≠ gnq → q ≠ hvq → q ≠ xq → q ≠ gq → q ≠ tbq → H868[q]? = s.heap[q]? := fun q t hq n1 n2 n3 n4 n5 n6 n7 => (hgH868 q t hq n5).trans (f866 q t hq n1 n2 n3 n4 n5 n6 n7)
  refine lv_aload_n hx hb dX0_begin_38 rfl (lv_at hl 0 rfl) ?_
  refine x_gr C hTH868 (ci := 0) (k := 5) rfl inX0 (by decide) wF_X0_24 ga0 rg_1 rfl dX0_begin_39 (fun q881 eq881 gq881 => ?_)
  have uq881 : gq = q881 := (m877).trans eq881.symm
  subst uq881
  refine lv_iconst (v := 0) hx hb dX0_begin_42 (by decide) ?_
  refine x_S (As := [.ref gq, .int 0]) (rest := []) C (c_fill_v l K G H868 (0) hTH868 ggq rg_6 (by decide) ⟨by have := i_rng (0 : Int32); omega, by have := i_rng (0 : Int32); omega⟩) yo_J7_fill_53178 wM_X0_54 ⟨⟨by decide, by decide⟩, by decide, by decide⟩ rfl hl.1 rfl (Nat.le_of_ble_eq_true rfl) dX0_begin_43 hSH868 (AE_sub (fun _ _ => rfl) (by decide) hSH868.1) (fun vH882 H882 locsH882 pH882 zH882 kH882 hSH882 => ?_)
  have hfH882 := pH882.2.2.1
  have hgH882 := pH882.2.2.2
  have hTH882 := pH882.2.1
  have hvH882 := pH882.1
  subst hvH882
  have f883 : RFB K H882 s.heap a0 := RFB.st f869 (fun k hk => fR_kept (x_lt hTH868 kH882 ga0 (by decide)))
  have f884 : ∀ j : Nat, j < 16 → fI H882 kq j = 20 := fun j hj => (fI_kept (x_lt hTH868 kH882 gkq (by decide))).trans (f870 j hj)
  have f885 : ∀ j : Nat, j < 16 → fI H882 gnq j = 5 := fun j hj => (fI_kept (x_lt hTH868 kH882 ggnq (by decide))).trans (f871 j hj)
  have f886 : ∀ j : Nat, j < 16 → fI H882 hvq j = 5 := fun j hj => (fI_kept (x_lt hTH868 kH882 ghvq (by decide))).trans (f872 j hj)
  have f887 : ∀ j : Nat, j < 16 → fI H882 xq j = 0 := fun j hj => (fI_kept (x_lt hTH868 kH882 gxq (by decide))).trans (hfH868 j hj)
  have m888 := (m873).trans (fR_kept (x_lt hTH868 kH882 ga0 (by decide))).symm
  have m889 := (m874).trans (fR_kept (x_lt hTH868 kH882 ga0 (by decide))).symm
  have m890 := (m875).trans (fR_kept (x_lt hTH868 kH882 ga0 (by decide))).symm
  have m891 := (m876).trans (fR_kept (x_lt hTH868 kH882 ga0 (by decide))).symm
  have m892 := (m877).trans (fR_kept (x_lt hTH868 kH882 ga0 (by decide))).symm
  have m893 := (m878).trans (fR_kept (x_lt hTH868 kH882 ga0 (by decide))).symm
  have m894 := (m879).trans (fI_kept (x_lt hTH868 kH882 ga0 (by decide))).symm
  refine W.eq (g2 := F0 m 46 ls []) rfl ?_
  have f895 : ∀ q t : Nat, G q = some t → q ≠ a0 → q ≠ kq → q ≠ gnq → q ≠ hvq → q ≠ xq → q ≠ gq → q ≠ tbq → H882[q]? = s.heap[q]? := fun q t hq n1 n2 n3 n4 n5 n6 n7 => (hgH882 q t hq n6).trans (f880 q t hq n1 n2 n3 n4 n5 n6 n7)
  refine lv_aload_n hx hb dX0_begin_46 rfl (lv_at hl 0 rfl) ?_
  refine x_gr C hTH882 (ci := 0) (k := 17) rfl inX0 (by decide) wF_X0_47 ga0 rg_1 rfl dX0_begin_47 (fun q896 eq896 gq896 => ?_)
  have uq896 : tbq = q896 := (m893).trans eq896.symm
  subst uq896
  refine lv_sipush (v := 500) hx hb dX0_begin_50 (by decide) ?_
  refine x_S (As := [.ref tbq, .int 500]) (rest := []) C (c_fill_v l K G H882 (500) hTH882 gtbq rg_15 (by decide) ⟨by have := i_rng (500 : Int32); omega, by have := i_rng (500 : Int32); omega⟩) yo_J7_fill_53178 wM_X0_54 ⟨⟨by decide, by decide⟩, by decide, by decide⟩ rfl hl.1 rfl (Nat.le_of_ble_eq_true rfl) dX0_begin_53 hSH882 (AE_sub (fun _ _ => rfl) (by decide) hSH882.1) (fun vH897 H897 locsH897 pH897 zH897 kH897 hSH897 => ?_)
  have hfH897 := pH897.2.2.1
  have hgH897 := pH897.2.2.2
  have hTH897 := pH897.2.1
  have hvH897 := pH897.1
  subst hvH897
  have f898 : RFB K H897 s.heap a0 := RFB.st f883 (fun k hk => fR_kept (x_lt hTH882 kH897 ga0 (by decide)))
  have f899 : ∀ j : Nat, j < 16 → fI H897 kq j = 20 := fun j hj => (fI_kept (x_lt hTH882 kH897 gkq (by decide))).trans (f884 j hj)
  have f900 : ∀ j : Nat, j < 16 → fI H897 gnq j = 5 := fun j hj => (fI_kept (x_lt hTH882 kH897 ggnq (by decide))).trans (f885 j hj)
  have f901 : ∀ j : Nat, j < 16 → fI H897 hvq j = 5 := fun j hj => (fI_kept (x_lt hTH882 kH897 ghvq (by decide))).trans (f886 j hj)
  have f902 : ∀ j : Nat, j < 16 → fI H897 xq j = 0 := fun j hj => (fI_kept (x_lt hTH882 kH897 gxq (by decide))).trans (f887 j hj)
  have f903 : ∀ j : Nat, j < 3 → fI H897 gq j = 0 := fun j hj => (fI_kept (x_lt hTH882 kH897 ggq (by decide))).trans (hfH882 j hj)
  have m904 := (m888).trans (fR_kept (x_lt hTH882 kH897 ga0 (by decide))).symm
  have m905 := (m889).trans (fR_kept (x_lt hTH882 kH897 ga0 (by decide))).symm
  have m906 := (m890).trans (fR_kept (x_lt hTH882 kH897 ga0 (by decide))).symm
  have m907 := (m891).trans (fR_kept (x_lt hTH882 kH897 ga0 (by decide))).symm
  have m908 := (m892).trans (fR_kept (x_lt hTH882 kH897 ga0 (by decide))).symm
  have m909 := (m893).trans (fR_kept (x_lt hTH882 kH897 ga0 (by decide))).symm
  have m910 := (m894).trans (fI_kept (x_lt hTH882 kH897 ga0 (by decide))).symm
  refine W.eq (g2 := F0 m 56 ls []) rfl ?_
  have f911 : ∀ q t : Nat, G q = some t → q ≠ a0 → q ≠ kq → q ≠ gnq → q ≠ hvq → q ≠ xq → q ≠ gq → q ≠ tbq → H897[q]? = s.heap[q]? := fun q t hq n1 n2 n3 n4 n5 n6 n7 => (hgH897 q t hq n7).trans (f895 q t hq n1 n2 n3 n4 n5 n6 n7)
  refine lv_aload_n hx hb dX0_begin_56 rfl (lv_at hl 0 rfl) ?_
  refine lv_iconst (v := 0) hx hb dX0_begin_57 (by decide) ?_
  refine x_put C hTH897 hSH897 (ci := 0) (k := 8) (v := .int 0) (ty0 := tyX0) rfl inX0 tyX0_ok nmX0 (by decide) rfl wF_X0_60 ga0 rg_1 rfl rfl (okI (by have := i_rng (0 : Int32); omega) (by have := i_rng (0 : Int32); omega)) rfl rfl (AE_in ga0 (by decide)) dX0_begin_58 (fun H912 locsH912 hTH912 hSH912 wH912 => ?_)
  have f913 : RFB K H912 s.heap a0 := RFB.st f898 (fun k hk => Wr.neR wH912 (Or.inr (hapB k _ (by omega) (by decide) (by omega))))
  have f914 : ∀ j : Nat, j < 16 → fI H912 kq j = 20 := fun j hj => (fI_kept (wH912.off (G_ne gkq ga0 (by decide)))).trans (f899 j hj)
  have f915 : ∀ j : Nat, j < 16 → fI H912 gnq j = 5 := fun j hj => (fI_kept (wH912.off (G_ne ggnq ga0 (by decide)))).trans (f900 j hj)
  have f916 : ∀ j : Nat, j < 16 → fI H912 hvq j = 5 := fun j hj => (fI_kept (wH912.off (G_ne ghvq ga0 (by decide)))).trans (f901 j hj)
  have f917 : ∀ j : Nat, j < 16 → fI H912 xq j = 0 := fun j hj => (fI_kept (wH912.off (G_ne gxq ga0 (by decide)))).trans (f902 j hj)
  have f918 : ∀ j : Nat, j < 3 → fI H912 gq j = 0 := fun j hj => (fI_kept (wH912.off (G_ne ggq ga0 (by decide)))).trans (f903 j hj)
  have f919 : ∀ j : Nat, j < 2 → fI H912 tbq j = 500 := fun j hj => (fI_kept (wH912.off (G_ne gtbq ga0 (by decide)))).trans (hfH897 j hj)
  have f920 : ∀ q t : Nat, G q = some t → q ≠ a0 → q ≠ kq → q ≠ gnq → q ≠ hvq → q ≠ xq → q ≠ gq → q ≠ tbq → H912[q]? = s.heap[q]? := (fun q t hq  n1 n2 n3 n4 n5 n6 n7 => (wH912.off n1).trans (f911 q t hq  n1 n2 n3 n4 n5 n6 n7))
  have m921 := m904.trans (Wr.neR wH912 (Or.inr (x_apart hKT hts inX0 tyX0 tyX0_ok nmX0 rfl 1 8 (by decide) (by decide) (by decide)))).symm
  have m922 := m905.trans (Wr.neR wH912 (Or.inr (x_apart hKT hts inX0 tyX0 tyX0_ok nmX0 rfl 2 8 (by decide) (by decide) (by decide)))).symm
  have m923 := m906.trans (Wr.neR wH912 (Or.inr (x_apart hKT hts inX0 tyX0 tyX0_ok nmX0 rfl 3 8 (by decide) (by decide) (by decide)))).symm
  have m924 := m907.trans (Wr.neR wH912 (Or.inr (x_apart hKT hts inX0 tyX0 tyX0_ok nmX0 rfl 4 8 (by decide) (by decide) (by decide)))).symm
  have m925 := m908.trans (Wr.neR wH912 (Or.inr (x_apart hKT hts inX0 tyX0 tyX0_ok nmX0 rfl 5 8 (by decide) (by decide) (by decide)))).symm
  have m926 := m909.trans (Wr.neR wH912 (Or.inr (x_apart hKT hts inX0 tyX0 tyX0_ok nmX0 rfl 17 8 (by decide) (by decide) (by decide)))).symm
  have m927 := m910.trans (Wr.neI wH912 (Or.inr (x_apart hKT hts inX0 tyX0 tyX0_ok nmX0 rfl 0 8 (by decide) (by decide) (by decide)))).symm
  have m928 := Wr.I wH912
  refine lv_aload_n hx hb dX0_begin_61 rfl (lv_at hl 0 rfl) ?_
  refine lv_iconst (v := 0) hx hb dX0_begin_62 (by decide) ?_
  refine x_put C hTH912 hSH912 (ci := 0) (k := 9) (v := .int 0) (ty0 := tyX0) rfl inX0 tyX0_ok nmX0 (by decide) rfl wF_X0_63 ga0 rg_1 rfl rfl (okI (by have := i_rng (0 : Int32); omega) (by have := i_rng (0 : Int32); omega)) rfl rfl (AE_in ga0 (by decide)) dX0_begin_63 (fun H929 locsH929 hTH929 hSH929 wH929 => ?_)
  have f930 : RFB K H929 s.heap a0 := RFB.st f913 (fun k hk => Wr.neR wH929 (Or.inr (hapB k _ (by omega) (by decide) (by omega))))
  have f931 : ∀ j : Nat, j < 16 → fI H929 kq j = 20 := fun j hj => (fI_kept (wH929.off (G_ne gkq ga0 (by decide)))).trans (f914 j hj)
  have f932 : ∀ j : Nat, j < 16 → fI H929 gnq j = 5 := fun j hj => (fI_kept (wH929.off (G_ne ggnq ga0 (by decide)))).trans (f915 j hj)
  have f933 : ∀ j : Nat, j < 16 → fI H929 hvq j = 5 := fun j hj => (fI_kept (wH929.off (G_ne ghvq ga0 (by decide)))).trans (f916 j hj)
  have f934 : ∀ j : Nat, j < 16 → fI H929 xq j = 0 := fun j hj => (fI_kept (wH929.off (G_ne gxq ga0 (by decide)))).trans (f917 j hj)
  have f935 : ∀ j : Nat, j < 3 → fI H929 gq j = 0 := fun j hj => (fI_kept (wH929.off (G_ne ggq ga0 (by decide)))).trans (f918 j hj)
  have f936 : ∀ j : Nat, j < 2 → fI H929 tbq j = 500 := fun j hj => (fI_kept (wH929.off (G_ne gtbq ga0 (by decide)))).trans (f919 j hj)
  have f937 : ∀ q t : Nat, G q = some t → q ≠ a0 → q ≠ kq → q ≠ gnq → q ≠ hvq → q ≠ xq → q ≠ gq → q ≠ tbq → H929[q]? = s.heap[q]? := (fun q t hq  n1 n2 n3 n4 n5 n6 n7 => (wH929.off n1).trans (f920 q t hq  n1 n2 n3 n4 n5 n6 n7))
  have m938 := m921.trans (Wr.neR wH929 (Or.inr (x_apart hKT hts inX0 tyX0 tyX0_ok nmX0 rfl 1 9 (by decide) (by decide) (by decide)))).symm
  have m939 := m922.trans (Wr.neR wH929 (Or.inr (x_apart hKT hts inX0 tyX0 tyX0_ok nmX0 rfl 2 9 (by decide) (by decide) (by decide)))).symm
  have m940 := m923.trans (Wr.neR wH929 (Or.inr (x_apart hKT hts inX0 tyX0 tyX0_ok nmX0 rfl 3 9 (by decide) (by decide) (by decide)))).symm
  have m941 := m924.trans (Wr.neR wH929 (Or.inr (x_apart hKT hts inX0 tyX0 tyX0_ok nmX0 rfl 4 9 (by decide) (by decide) (by decide)))).symm
  have m942 := m925.trans (Wr.neR wH929 (Or.inr (x_apart hKT hts inX0 tyX0 tyX0_ok nmX0 rfl 5 9 (by decide) (by decide) (by decide)))).symm
  have m943 := m926.trans (Wr.neR wH929 (Or.inr (x_apart hKT hts inX0 tyX0 tyX0_ok nmX0 rfl 17 9 (by decide) (by decide) (by decide)))).symm
  have m944 := m927.trans (Wr.neI wH929 (Or.inr (x_apart hKT hts inX0 tyX0 tyX0_ok nmX0 rfl 0 9 (by decide) (by decide) (by decide)))).symm
  have m945 := (Wr.neI wH929 (Or.inr (x_apart hKT hts inX0 tyX0 tyX0_ok nmX0 rfl 8 9 (by decide) (by decide) (by decide)))).trans m928
  have m946 := Wr.I wH929
  refine lv_aload_n hx hb dX0_begin_66 rfl (lv_at hl 0 rfl) ?_
  refine lv_iconst (v := 0) hx hb dX0_begin_67 (by decide) ?_
  refine x_put C hTH929 hSH929 (ci := 0) (k := 14) (v := .int 0) (ty0 := tyX0) rfl inX0 tyX0_ok nmX0 (by decide) rfl wF_X0_66 ga0 rg_1 rfl rfl (okI (by have := i_rng (0 : Int32); omega) (by have := i_rng (0 : Int32); omega)) rfl rfl (AE_in ga0 (by decide)) dX0_begin_68 (fun H947 locsH947 hTH947 hSH947 wH947 => ?_)
  have f948 : RFB K H947 s.heap a0 := RFB.st f930 (fun k hk => Wr.neR wH947 (Or.inr (hapB k _ (by omega) (by decide) (by omega))))
  have f949 : ∀ j : Nat, j < 16 → fI H947 kq j = 20 := fun j hj => (fI_kept (wH947.off (G_ne gkq ga0 (by decide)))).trans (f931 j hj)
  have f950 : ∀ j : Nat, j < 16 → fI H947 gnq j = 5 := fun j hj => (fI_kept (wH947.off (G_ne ggnq ga0 (by decide)))).trans (f932 j hj)
  have f951 : ∀ j : Nat, j < 16 → fI H947 hvq j = 5 := fun j hj => (fI_kept (wH947.off (G_ne ghvq ga0 (by decide)))).trans (f933 j hj)
  have f952 : ∀ j : Nat, j < 16 → fI H947 xq j = 0 := fun j hj => (fI_kept (wH947.off (G_ne gxq ga0 (by decide)))).trans (f934 j hj)
  have f953 : ∀ j : Nat, j < 3 → fI H947 gq j = 0 := fun j hj => (fI_kept (wH947.off (G_ne ggq ga0 (by decide)))).trans (f935 j hj)
  have f954 : ∀ j : Nat, j < 2 → fI H947 tbq j = 500 := fun j hj => (fI_kept (wH947.off (G_ne gtbq ga0 (by decide)))).trans (f936 j hj)
  have f955 : ∀ q t : Nat, G q = some t → q ≠ a0 → q ≠ kq → q ≠ gnq → q ≠ hvq → q ≠ xq → q ≠ gq → q ≠ tbq → H947[q]? = s.heap[q]? := (fun q t hq  n1 n2 n3 n4 n5 n6 n7 => (wH947.off n1).trans (f937 q t hq  n1 n2 n3 n4 n5 n6 n7))
  have m956 := m938.trans (Wr.neR wH947 (Or.inr (x_apart hKT hts inX0 tyX0 tyX0_ok nmX0 rfl 1 14 (by decide) (by decide) (by decide)))).symm
  have m957 := m939.trans (Wr.neR wH947 (Or.inr (x_apart hKT hts inX0 tyX0 tyX0_ok nmX0 rfl 2 14 (by decide) (by decide) (by decide)))).symm
  have m958 := m940.trans (Wr.neR wH947 (Or.inr (x_apart hKT hts inX0 tyX0 tyX0_ok nmX0 rfl 3 14 (by decide) (by decide) (by decide)))).symm
  have m959 := m941.trans (Wr.neR wH947 (Or.inr (x_apart hKT hts inX0 tyX0 tyX0_ok nmX0 rfl 4 14 (by decide) (by decide) (by decide)))).symm
  have m960 := m942.trans (Wr.neR wH947 (Or.inr (x_apart hKT hts inX0 tyX0 tyX0_ok nmX0 rfl 5 14 (by decide) (by decide) (by decide)))).symm
  have m961 := m943.trans (Wr.neR wH947 (Or.inr (x_apart hKT hts inX0 tyX0 tyX0_ok nmX0 rfl 17 14 (by decide) (by decide) (by decide)))).symm
  have m962 := m944.trans (Wr.neI wH947 (Or.inr (x_apart hKT hts inX0 tyX0 tyX0_ok nmX0 rfl 0 14 (by decide) (by decide) (by decide)))).symm
  have m963 := (Wr.neI wH947 (Or.inr (x_apart hKT hts inX0 tyX0 tyX0_ok nmX0 rfl 8 14 (by decide) (by decide) (by decide)))).trans m945
  have m964 := (Wr.neI wH947 (Or.inr (x_apart hKT hts inX0 tyX0 tyX0_ok nmX0 rfl 9 14 (by decide) (by decide) (by decide)))).trans m946
  have m965 := Wr.I wH947
  refine lv_aload_n hx hb dX0_begin_71 rfl (lv_at hl 0 rfl) ?_
  refine lv_iconst (v := (-1)) hx hb dX0_begin_72 (by decide) ?_
  refine x_put C hTH947 hSH947 (ci := 0) (k := 15) (v := .int (-1)) (ty0 := tyX0) rfl inX0 tyX0_ok nmX0 (by decide) rfl wF_X0_69 ga0 rg_1 rfl rfl (okI (by have := i_rng ((-1) : Int32); omega) (by have := i_rng ((-1) : Int32); omega)) rfl rfl (AE_in ga0 (by decide)) dX0_begin_73 (fun H966 locsH966 hTH966 hSH966 wH966 => ?_)
  have f967 : RFB K H966 s.heap a0 := RFB.st f948 (fun k hk => Wr.neR wH966 (Or.inr (hapB k _ (by omega) (by decide) (by omega))))
  have f968 : ∀ j : Nat, j < 16 → fI H966 kq j = 20 := fun j hj => (fI_kept (wH966.off (G_ne gkq ga0 (by decide)))).trans (f949 j hj)
  have f969 : ∀ j : Nat, j < 16 → fI H966 gnq j = 5 := fun j hj => (fI_kept (wH966.off (G_ne ggnq ga0 (by decide)))).trans (f950 j hj)
  have f970 : ∀ j : Nat, j < 16 → fI H966 hvq j = 5 := fun j hj => (fI_kept (wH966.off (G_ne ghvq ga0 (by decide)))).trans (f951 j hj)
  have f971 : ∀ j : Nat, j < 16 → fI H966 xq j = 0 := fun j hj => (fI_kept (wH966.off (G_ne gxq ga0 (by decide)))).trans (f952 j hj)
  have f972 : ∀ j : Nat, j < 3 → fI H966 gq j = 0 := fun j hj => (fI_kept (wH966.off (G_ne ggq ga0 (by decide)))).trans (f953 j hj)
  have f973 : ∀ j : Nat, j < 2 → fI H966 tbq j = 500 := fun j hj => (fI_kept (wH966.off (G_ne gtbq ga0 (by decide)))).trans (f954 j hj)
  have f974 : ∀ q t : Nat, G q = some t → q ≠ a0 → q ≠ kq → q ≠ gnq → q ≠ hvq → q ≠ xq → q ≠ gq → q ≠ tbq → H966[q]? = s.heap[q]? := (fun q t hq  n1 n2 n3 n4 n5 n6 n7 => (wH966.off n1).trans (f955 q t hq  n1 n2 n3 n4 n5 n6 n7))
  have m975 := m956.trans (Wr.neR wH966 (Or.inr (x_apart hKT hts inX0 tyX0 tyX0_ok nmX0 rfl 1 15 (by decide) (by decide) (by decide)))).symm
  have m976 := m957.trans (Wr.neR wH966 (Or.inr (x_apart hKT hts inX0 tyX0 tyX0_ok nmX0 rfl 2 15 (by decide) (by decide) (by decide)))).symm
  have m977 := m958.trans (Wr.neR wH966 (Or.inr (x_apart hKT hts inX0 tyX0 tyX0_ok nmX0 rfl 3 15 (by decide) (by decide) (by decide)))).symm
  have m978 := m959.trans (Wr.neR wH966 (Or.inr (x_apart hKT hts inX0 tyX0 tyX0_ok nmX0 rfl 4 15 (by decide) (by decide) (by decide)))).symm
  have m979 := m960.trans (Wr.neR wH966 (Or.inr (x_apart hKT hts inX0 tyX0 tyX0_ok nmX0 rfl 5 15 (by decide) (by decide) (by decide)))).symm
  have m980 := m961.trans (Wr.neR wH966 (Or.inr (x_apart hKT hts inX0 tyX0 tyX0_ok nmX0 rfl 17 15 (by decide) (by decide) (by decide)))).symm
  have m981 := m962.trans (Wr.neI wH966 (Or.inr (x_apart hKT hts inX0 tyX0 tyX0_ok nmX0 rfl 0 15 (by decide) (by decide) (by decide)))).symm
  have m982 := (Wr.neI wH966 (Or.inr (x_apart hKT hts inX0 tyX0 tyX0_ok nmX0 rfl 8 15 (by decide) (by decide) (by decide)))).trans m963
  have m983 := (Wr.neI wH966 (Or.inr (x_apart hKT hts inX0 tyX0 tyX0_ok nmX0 rfl 9 15 (by decide) (by decide) (by decide)))).trans m964
  have m984 := (Wr.neI wH966 (Or.inr (x_apart hKT hts inX0 tyX0 tyX0_ok nmX0 rfl 14 15 (by decide) (by decide) (by decide)))).trans m965
  have m985 := Wr.I wH966
  refine lv_aload_n hx hb dX0_begin_76 rfl (lv_at hl 0 rfl) ?_
  refine lv_iconst (v := (-1)) hx hb dX0_begin_77 (by decide) ?_
  refine x_put C hTH966 hSH966 (ci := 0) (k := 16) (v := .int (-1)) (ty0 := tyX0) rfl inX0 tyX0_ok nmX0 (by decide) rfl wF_X0_72 ga0 rg_1 rfl rfl (okI (by have := i_rng ((-1) : Int32); omega) (by have := i_rng ((-1) : Int32); omega)) rfl rfl (AE_in ga0 (by decide)) dX0_begin_78 (fun H986 locsH986 hTH986 hSH986 wH986 => ?_)
  have f987 : RFB K H986 s.heap a0 := RFB.st f967 (fun k hk => Wr.neR wH986 (Or.inr (hapB k _ (by omega) (by decide) (by omega))))
  have f988 : ∀ j : Nat, j < 16 → fI H986 kq j = 20 := fun j hj => (fI_kept (wH986.off (G_ne gkq ga0 (by decide)))).trans (f968 j hj)
  have f989 : ∀ j : Nat, j < 16 → fI H986 gnq j = 5 := fun j hj => (fI_kept (wH986.off (G_ne ggnq ga0 (by decide)))).trans (f969 j hj)
  have f990 : ∀ j : Nat, j < 16 → fI H986 hvq j = 5 := fun j hj => (fI_kept (wH986.off (G_ne ghvq ga0 (by decide)))).trans (f970 j hj)
  have f991 : ∀ j : Nat, j < 16 → fI H986 xq j = 0 := fun j hj => (fI_kept (wH986.off (G_ne gxq ga0 (by decide)))).trans (f971 j hj)
  have f992 : ∀ j : Nat, j < 3 → fI H986 gq j = 0 := fun j hj => (fI_kept (wH986.off (G_ne ggq ga0 (by decide)))).trans (f972 j hj)
  have f993 : ∀ j : Nat, j < 2 → fI H986 tbq j = 500 := fun j hj => (fI_kept (wH986.off (G_ne gtbq ga0 (by decide)))).trans (f973 j hj)
  have f994 : ∀ q t : Nat, G q = some t → q ≠ a0 → q ≠ kq → q ≠ gnq → q ≠ hvq → q ≠ xq → q ≠ gq → q ≠ tbq → H986[q]? = s.heap[q]? := (fun q t hq  n1 n2 n3 n4 n5 n6 n7 => (wH986.off n1).trans (f974 q t hq  n1 n2 n3 n4 n5 n6 n7))
  have m995 := m975.trans (Wr.neR wH986 (Or.inr (x_apart hKT hts inX0 tyX0 tyX0_ok nmX0 rfl 1 16 (by decide) (by decide) (by decide)))).symm
  have m996 := m976.trans (Wr.neR wH986 (Or.inr (x_apart hKT hts inX0 tyX0 tyX0_ok nmX0 rfl 2 16 (by decide) (by decide) (by decide)))).symm
  have m997 := m977.trans (Wr.neR wH986 (Or.inr (x_apart hKT hts inX0 tyX0 tyX0_ok nmX0 rfl 3 16 (by decide) (by decide) (by decide)))).symm
  have m998 := m978.trans (Wr.neR wH986 (Or.inr (x_apart hKT hts inX0 tyX0 tyX0_ok nmX0 rfl 4 16 (by decide) (by decide) (by decide)))).symm
  have m999 := m979.trans (Wr.neR wH986 (Or.inr (x_apart hKT hts inX0 tyX0 tyX0_ok nmX0 rfl 5 16 (by decide) (by decide) (by decide)))).symm
  have m1000 := m980.trans (Wr.neR wH986 (Or.inr (x_apart hKT hts inX0 tyX0 tyX0_ok nmX0 rfl 17 16 (by decide) (by decide) (by decide)))).symm
  have m1001 := m981.trans (Wr.neI wH986 (Or.inr (x_apart hKT hts inX0 tyX0 tyX0_ok nmX0 rfl 0 16 (by decide) (by decide) (by decide)))).symm
  have m1002 := (Wr.neI wH986 (Or.inr (x_apart hKT hts inX0 tyX0 tyX0_ok nmX0 rfl 8 16 (by decide) (by decide) (by decide)))).trans m982
  have m1003 := (Wr.neI wH986 (Or.inr (x_apart hKT hts inX0 tyX0 tyX0_ok nmX0 rfl 9 16 (by decide) (by decide) (by decide)))).trans m983
  have m1004 := (Wr.neI wH986 (Or.inr (x_apart hKT hts inX0 tyX0 tyX0_ok nmX0 rfl 14 16 (by decide) (by decide) (by decide)))).trans m984
  have m1005 := (Wr.neI wH986 (Or.inr (x_apart hKT hts inX0 tyX0 tyX0_ok nmX0 rfl 15 16 (by decide) (by decide) (by decide)))).trans m985
  have m1006 := Wr.I wH986
  exact x_vret C hQ dX0_begin_81 hSH986 (by decide) (by decide) (⟨rfl, m995, m996, m997, m998, m999, m1000, ⟨by rw [vwC_f (Or.inl rfl), ← m1001], fun j hj => ⟨by rw [vwC_a (k := 1) (by decide)]; show (fI H986 (fR H986 a0 (K.1.2 0 1)) j).toInt = 20; rw [← m995, f988 j hj]; exact n_20, by rw [vwC_a (k := 2) (by decide)]; show (fI H986 (fR H986 a0 (K.1.2 0 2)) j).toInt = 5; rw [← m996, f989 j hj]; exact n_5, by rw [vwC_a (k := 3) (by decide)]; show (fI H986 (fR H986 a0 (K.1.2 0 3)) j).toInt = 5; rw [← m997, f990 j hj]; exact n_5, by rw [vwC_a (k := 4) (by decide)]; show (fI H986 (fR H986 a0 (K.1.2 0 4)) j).toInt = 0; rw [← m998, f991 j hj]; exact n_0⟩, fun j hj => by rw [vwC_a (k := 5) (by decide)]; show (fI H986 (fR H986 a0 (K.1.2 0 5)) j).toInt = 0; rw [← m999, f992 j hj]; exact n_0, by rw [vwC_f (Or.inr (Or.inl rfl)), m1002]; exact n_0, by rw [vwC_f (Or.inr (Or.inr rfl)), m1003]; exact n_0⟩, f994, f987, hTH986⟩)

/-- a world's own field is written: no bar's row changes -/
theorem vw_now {K : KE} {G : Nat → Option Nat} {H H1 : Heap} {q w i : Nat} {x : Int32} (hT : TY K G H) (gq : G q = some 1) (e : Wr H H1 w i (.int x)) (gw : G w = some 0) : vwC K H1 q = vwC K H q := by
  funext k1 j1
  unfold vwC
  rw [Wr.neI e (Or.inl (G_ne gq gw (by decide)))]
  by_cases c : k1 = 0 ∨ k1 = 8 ∨ k1 = 9
  · rw [if_pos c, if_pos c]
  · rw [if_neg c, if_neg c]
    by_cases c1 : 1 ≤ k1 ∧ k1 ≤ 7
    · rw [if_pos c1, if_pos c1, Wr.neR e (Or.inl (G_ne gq gw (by decide))), Wr.neI e (Or.inl (G_ne (gB hT gq k1 c1) gw (by omega)))]
    · rw [if_neg c1, if_neg c1]
set_option maxHeartbeats 4000000 in
set_option maxRecDepth 100000 in
theorem a_X9_bar_v (l : Launch) (K : KE) (G : Nat → Option Nat) (H : Heap) {a0 : Nat} (x1 : Int32) {w0 : Nat} {bq : Nat} {bb : Nat} {kq : Nat} {gnq : Nat} {hvq : Nat} {xq : Nat} {gq : Nat} {tbq : Nat} (s1 : Int32) (s4 : Int32) (s5 : Int32) (s10 : Int32) (s13 : Int32) (s16 : Int32) (hT : TY K G H) (ga0 : G a0 = some 68) (hx1 : 3 ≤ x1.toInt ∧ x1.toInt ≤ 16) (gw0 : G w0 = some 0) (ew0 : w0 = fR H a0 (K.1.2 9 0)) (gbq : G bq = some 25) (ebq : bq = fR H w0 (K.1.2 8 0)) (gbb : G bb = some 1) (ebb : bb = fR H bq (s1 : Int32).toNatClampNeg) (gkq : G kq = some 2) (ekq : kq = fR H bb (K.1.2 0 1)) (ggnq : G gnq = some 3) (egnq : gnq = fR H bb (K.1.2 0 2)) (ghvq : G hvq = some 4) (ehvq : hvq = fR H bb (K.1.2 0 3)) (gxq : G xq = some 5) (exq : xq = fR H bb (K.1.2 0 4)) (ggq : G gq = some 6) (egq : gq = fR H bb (K.1.2 0 5)) (gtbq : G tbq = some 15) (etbq : tbq = fR H bb (K.1.2 0 17)) (es1 : s1 = fI H w0 (K.1.2 8 1)) (es4 : s4 = fI H w0 (K.1.2 8 4)) (es5 : s5 = fI H w0 (K.1.2 8 5)) (es10 : s10 = fI H w0 (K.1.2 8 10)) (es13 : s13 = fI H w0 (K.1.2 8 13)) (es16 : s16 = fI H w0 (K.1.2 8 16)) (hp0 : s1.toInt ≤ 9) : MX l K yX9_bar cX9_bar 2 (some .int) 2 44 0 0 [.ref a0, .int x1] H (AE G [0, 1, 2, 3, 4, 5, 6, 15] H.size) (fun v H1 => ∃ (r : Int32) (t0 : Int32), v = some (.int r) ∧ t0 = fI H1 w0 (K.1.2 8 1) ∧ (r.toInt = s1.toInt ∧ t0.toInt = s1.toInt + 1) ∧ bq = fR H1 w0 (K.1.2 8 0) ∧ kq = fR H1 bb (K.1.2 0 1) ∧ gnq = fR H1 bb (K.1.2 0 2) ∧ hvq = fR H1 bb (K.1.2 0 3) ∧ xq = fR H1 bb (K.1.2 0 4) ∧ gq = fR H1 bb (K.1.2 0 5) ∧ tbq = fR H1 bb (K.1.2 0 17) ∧ s4 = fI H1 w0 (K.1.2 8 4) ∧ s5 = fI H1 w0 (K.1.2 8 5) ∧ s10 = fI H1 w0 (K.1.2 8 10) ∧ s13 = fI H1 w0 (K.1.2 8 13) ∧ s16 = fI H1 w0 (K.1.2 8 16) ∧ (NewV (vwC K H1 bb) x1.toInt) ∧ (∀ q t : Nat, G q = some t → q ≠ w0 → q ≠ bb → q ≠ kq → q ≠ gnq → q ≠ hvq → q ≠ xq → q ≠ gq → q ≠ tbq → H1[q]? = H[q]?) ∧ (RFB K H1 H bb) ∧ (NWF K H1 H w0) ∧ TY K G H1) := by
  refine MX.of (by decide +kernel) (Nat.le_of_ble_eq_true rfl) ?_
  intro p e s m below meth c ls Q C hH hl hQ
  subst hH
  have C : CX p K s m _ meth c RX9 cX9_bar 2 (some .int) "bar" := C
  obtain ⟨hx, hb, hml, hown, hts, hKT, hr, hlocks, hnm⟩ := id C
  have hl : lv_has ls 2 [(0, .ref a0), (1, .int x1)] := hl
  have hS : va_S (AE G [0, 1, 2, 3, 4, 5, 6, 15] s.heap.size) s.heap s.heap [] := va_S.rf
  have n_1 : (1 : Int32).toInt = 1 := rfl
  have n_3 : (3 : Int32).toInt = 3 := rfl
  have n_10 : (10 : Int32).toInt = 10 := rfl
  have n_16 : (16 : Int32).toInt = 16 := rfl
  have bs1 := ty_fi (x := s1) (k := 1) es1 hT gw0 rg_0 rfl
  have bs4 := ty_fi (x := s4) (k := 4) es4 hT gw0 rg_0 rfl
  have bs5 := ty_fi (x := s5) (k := 5) es5 hT gw0 rg_0 rfl
  have bs10 := ty_fi (x := s10) (k := 10) es10 hT gw0 rg_0 rfl
  have bs13 := ty_fi (x := s13) (k := 13) es13 hT gw0 rg_0 rfl
  have bs16 := ty_fi (x := s16) (k := 16) es16 hT gw0 rg_0 rfl
  have hapB : ∀ x y, x < 18 → y < 18 → x ≠ y → K.1.2 0 x ≠ K.1.2 0 y := x_apart hKT hts inX0 tyX0 tyX0_ok nmX0 rfl
  have hapW : ∀ x y, x < 17 → y < 17 → x ≠ y → K.1.2 8 x ≠ K.1.2 8 y := x_apart hKT hts inX8 tyX8 tyX8_ok nmX8 rfl
  have f0_fx : ∀ q t : Nat, G q = some t → q ≠ w0 → q ≠ bb → q ≠ kq → q ≠ gnq → q ≠ hvq → q ≠ xq → q ≠ gq → q ≠ tbq → s.heap[q]? = s.heap[q]? := fun _ _ _ _ _ _ _ _ _ _ _ => rfl
  have f0_rb : RFB K s.heap s.heap bb := RFB.rf
  have f0_nw : NWF K s.heap s.heap w0 := NWF.rf
  refine lv_iload_n hx hb dX9_bar_0 rfl (lv_at hl 1 rfl) ?_
  refine lv_iconst (v := 3) hx hb dX9_bar_1 (by decide) ?_
  refine lv_icmp_lt (tgt := 23) hx hb dX9_bar_2 (by decide) (fun c337 => ?_) (fun c337 => ?_)
  · have k338 := i_lt c337
    exfalso
    omega
  · have k338 := i_nlt c337
    refine lv_iload_n hx hb dX9_bar_5 rfl (lv_at hl 1 rfl) ?_
    refine lv_bipush (v := 16) hx hb dX9_bar_6 (by decide) ?_
    refine lv_icmp_gt (tgt := 23) hx hb dX9_bar_8 (by decide) (fun c339 => ?_) (fun c339 => ?_)
    · have k340 := i_lt c339
      exfalso
      omega
    · have k340 := i_nlt c339
      refine lv_aload_n hx hb dX9_bar_11 rfl (lv_at hl 0 rfl) ?_
      refine x_gr C hT (ci := 9) (k := 0) rfl inX9 (by decide) wF_X9_12 ga0 rg_68 rfl dX9_bar_12 (fun q341 eq341 gq341 => ?_)
      have uq341 : w0 = q341 := (ew0).trans eq341.symm
      subst uq341
      refine x_gi C hT (ci := 8) (k := 1) rfl inX8 (by decide) wF_X9_64 gw0 rg_0 rfl dX9_bar_15 (fun x342 ex342 bx342 => ?_)
      have ux342 : s1 = x342 := (es1).trans ex342.symm
      subst ux342
      refine lv_bipush (v := 10) hx hb dX9_bar_18 (by decide) ?_
      refine lv_icmp_lt (tgt := 25) hx hb dX9_bar_20 (by decide) (fun c343 => ?_) (fun c343 => ?_)
      · have k344 := i_lt c343
        refine lv_aload_n hx hb dX9_bar_25 rfl (lv_at hl 0 rfl) ?_
        refine x_gr C hT (ci := 9) (k := 0) rfl inX9 (by decide) wF_X9_12 ga0 rg_68 rfl dX9_bar_26 (fun q345 eq345 gq345 => ?_)
        have uq345 : w0 = q345 := (ew0).trans eq345.symm
        subst uq345
        refine x_gr C hT (ci := 8) (k := 0) rfl inX8 (by decide) wF_X9_68 gw0 rg_0 rfl dX9_bar_29 (fun q346 eq346 gq346 => ?_)
        have uq346 : bq = q346 := (ebq).trans eq346.symm
        subst uq346
        refine lv_aload_n hx hb dX9_bar_32 rfl (lv_at hl 0 rfl) ?_
        refine x_gr C hT (ci := 9) (k := 0) rfl inX9 (by decide) wF_X9_12 ga0 rg_68 rfl dX9_bar_33 (fun q347 eq347 gq347 => ?_)
        have uq347 : w0 = q347 := (ew0).trans eq347.symm
        subst uq347
        refine x_gi C hT (ci := 8) (k := 1) rfl inX8 (by decide) wF_X9_64 gw0 rg_0 rfl dX9_bar_36 (fun x348 ex348 bx348 => ?_)
        have ux348 : s1 = x348 := (es1).trans ex348.symm
        subst ux348
        refine x_ar C hT rfl rfl gbq rg_25 ⟨by omega, by show _ < ((10 : Nat) : Int); omega⟩ dX9_bar_39 (fun q349 eq349 gq349 => ?_)
        have uq349 : bb = q349 := (ebb).trans eq349.symm
        subst uq349
        refine lv_iload_n hx hb dX9_bar_40 rfl (lv_at hl 1 rfl) ?_
        refine x_V (As := [.int x1]) (rest := []) C (a_X0_begin_v l K G s.heap (x1) hT gbb (by omega) gkq ekq ggnq egnq ghvq ehvq gxq exq ggq egq gtbq etbq) yo_X0_begin wM_X9_72 ⟨⟨by decide, by decide⟩, by decide, by decide⟩ (x_rv C hT (ci := 0) rfl gbb rg_1) rfl hl.1 rfl (Nat.le_of_ble_eq_true rfl) dX9_bar_41 hS (AE_sub (fun _ _ => rfl) (by decide) hS.1) (fun vH350 H350 locsH350 pH350 zH350 kH350 hSH350 => ?_)
        obtain ⟨hvH350, m351, m352, m353, m354, m355, m356, m357, m358, m359, hTH350⟩ := pH350
        subst hvH350
        have f360 : NWF K H350 s.heap w0 := NWF.st f0_nw (fun k hk => fR_kept (x_lt hT kH350 gw0 (by decide)))
        have m361 := (ew0).trans (fR_kept (x_lt hT kH350 ga0 (by decide))).symm
        have m362 := (ebq).trans (fR_kept (x_lt hT kH350 gw0 (by decide))).symm
        have m363 := (ebb).trans (fR_kept (x_lt hT kH350 gbq (by decide))).symm
        have m364 := (es1).trans (fI_kept (x_lt hT kH350 gw0 (by decide))).symm
        have m365 := (es4).trans (fI_kept (x_lt hT kH350 gw0 (by decide))).symm
        have m366 := (es5).trans (fI_kept (x_lt hT kH350 gw0 (by decide))).symm
        have m367 := (es10).trans (fI_kept (x_lt hT kH350 gw0 (by decide))).symm
        have m368 := (es13).trans (fI_kept (x_lt hT kH350 gw0 (by decide))).symm
        have m369 := (es16).trans (fI_kept (x_lt hT kH350 gw0 (by decide))).symm
        have f370 : ∀ q t : Nat, G q = some t → q ≠ w0 → q ≠ bb → q ≠ kq → q ≠ gnq → q ≠ hvq → q ≠ xq → q ≠ gq → q ≠ tbq → H350[q]? = s.heap[q]? := fun q t hq n1 n2 n3 n4 n5 n6 n7 n8 => (m358 q t hq n2 n3 n4 n5 n6 n7 n8).trans (f0_fx q t hq n1 n2 n3 n4 n5 n6 n7 n8)
        have f371 : RFB K H350 s.heap bb := RFB.st f0_rb m359
        refine W.eq (g2 := F0 m 44 ls []) rfl ?_
        refine lv_aload_n hx hb dX9_bar_44 rfl (lv_at hl 0 rfl) ?_
        refine x_gr C hTH350 (ci := 9) (k := 0) rfl inX9 (by decide) wF_X9_12 ga0 rg_68 rfl dX9_bar_45 (fun q372 eq372 gq372 => ?_)
        have uq372 : w0 = q372 := (m361).trans eq372.symm
        subst uq372
        refine lv_dup hx hb dX9_bar_48 rfl ?_
        refine x_gi C hTH350 (ci := 8) (k := 1) rfl inX8 (by decide) wF_X9_64 gw0 rg_0 rfl dX9_bar_49 (fun x373 ex373 bx373 => ?_)
        have ux373 : s1 = x373 := (m364).trans ex373.symm
        subst ux373
        refine lv_iconst (v := 1) hx hb dX9_bar_52 (by decide) ?_
        refine lv_iadd hx hb dX9_bar_53 ?_
        refine lv_topi (fun x374 ex374 => ?_)
        have tx374 := i_add ex374 (by omega)
        refine x_put C hTH350 hSH350 (ci := 8) (k := 1) (v := .int x374) (ty0 := tyX8) rfl inX8 tyX8_ok nmX8 (by decide) rfl wF_X9_64 gw0 rg_0 rfl rfl (okI (by have := i_rng x374; omega) (by have := i_rng x374; omega)) rfl rfl (AE_in gw0 (by decide)) dX9_bar_54 (fun H375 locsH375 hTH375 hSH375 wH375 => ?_)
        have f376 : NWF K H375 s.heap w0 := NWF.st f360 (fun k hk => Wr.neR wH375 (Or.inr (hapW k _ (by omega) (by decide) (by omega))))
        have f377 : ∀ q t : Nat, G q = some t → q ≠ w0 → q ≠ bb → q ≠ kq → q ≠ gnq → q ≠ hvq → q ≠ xq → q ≠ gq → q ≠ tbq → H375[q]? = s.heap[q]? := (fun q t hq  n1 n2 n3 n4 n5 n6 n7 n8 => (wH375.off n1).trans (f370 q t hq  n1 n2 n3 n4 n5 n6 n7 n8))
        have f378 : RFB K H375 s.heap bb := RFB.st f371 (fun k hk => fR_kept (wH375.off (G_ne gbb gw0 (by decide))))
        have m379 := m361.trans (Wr.neR wH375 (Or.inl (G_ne ga0 gw0 (by decide)))).symm
        have m380 := m362.trans (Wr.neR wH375 (Or.inr (x_apart hKT hts inX8 tyX8 tyX8_ok nmX8 rfl 0 1 (by decide) (by decide) (by decide)))).symm
        have m381 := m363.trans (Wr.neR wH375 (Or.inl (G_ne gbq gw0 (by decide)))).symm
        have m383 := m365.trans (Wr.neI wH375 (Or.inr (x_apart hKT hts inX8 tyX8 tyX8_ok nmX8 rfl 4 1 (by decide) (by decide) (by decide)))).symm
        have m384 := m366.trans (Wr.neI wH375 (Or.inr (x_apart hKT hts inX8 tyX8 tyX8_ok nmX8 rfl 5 1 (by decide) (by decide) (by decide)))).symm
        have m385 := m367.trans (Wr.neI wH375 (Or.inr (x_apart hKT hts inX8 tyX8 tyX8_ok nmX8 rfl 10 1 (by decide) (by decide) (by decide)))).symm
        have m386 := m368.trans (Wr.neI wH375 (Or.inr (x_apart hKT hts inX8 tyX8 tyX8_ok nmX8 rfl 13 1 (by decide) (by decide) (by decide)))).symm
        have m387 := m369.trans (Wr.neI wH375 (Or.inr (x_apart hKT hts inX8 tyX8 tyX8_ok nmX8 rfl 16 1 (by decide) (by decide) (by decide)))).symm
        have m388 := m351.trans (Wr.neR wH375 (Or.inl (G_ne gbb gw0 (by decide)))).symm
        have m389 := m352.trans (Wr.neR wH375 (Or.inl (G_ne gbb gw0 (by decide)))).symm
        have m390 := m353.trans (Wr.neR wH375 (Or.inl (G_ne gbb gw0 (by decide)))).symm
        have m391 := m354.trans (Wr.neR wH375 (Or.inl (G_ne gbb gw0 (by decide)))).symm
        have m392 := m355.trans (Wr.neR wH375 (Or.inl (G_ne gbb gw0 (by decide)))).symm
        have m393 := m356.trans (Wr.neR wH375 (Or.inl (G_ne gbb gw0 (by decide)))).symm
        have m394 := Wr.I wH375
        have m394 := m394.symm
        have nv395 : NewV (vwC K H375 bb) x1.toInt := by rw [vw_now hTH350 gbb wH375 gw0]; exact m357
        refine lv_aload_n hx hb dX9_bar_57 rfl (lv_at hl 0 rfl) ?_
        refine x_gr C hTH375 (ci := 9) (k := 0) rfl inX9 (by decide) wF_X9_12 ga0 rg_68 rfl dX9_bar_58 (fun q396 eq396 gq396 => ?_)
        have uq396 : w0 = q396 := (m379).trans eq396.symm
        subst uq396
        refine x_gi C hTH375 (ci := 8) (k := 1) rfl inX8 (by decide) wF_X9_64 gw0 rg_0 rfl dX9_bar_61 (fun x397 ex397 bx397 => ?_)
        have ux397 : x374 = x397 := (m394).trans ex397.symm
        subst ux397
        refine lv_iconst (v := 1) hx hb dX9_bar_64 (by decide) ?_
        refine lv_isub hx hb dX9_bar_65 ?_
        refine lv_topi (fun x398 ex398 => ?_)
        have tx398 := i_sub ex398 (by omega)
        exact x_iret C hQ dX9_bar_66 hSH375 (by decide) (by decide) (⟨x398, x374, rfl, m394, by omega, m380, m388, m389, m390, m391, m392, m393, m383, m384, m385, m386, m387, nv395, f377, f378, f376, hTH375⟩)
      · have k344 := i_nlt c343
        exfalso
        omega

set_option maxHeartbeats 4000000 in
set_option maxRecDepth 100000 in
theorem a_X9_bar_n (l : Launch) (K : KE) (G : Nat → Option Nat) (H : Heap) {a0 : Nat} (x1 : Int32) {w0 : Nat} (s1 : Int32) (hT : TY K G H) (ga0 : G a0 = some 68) (gw0 : G w0 = some 0) (ew0 : w0 = fR H a0 (K.1.2 9 0)) (es1 : s1 = fI H w0 (K.1.2 8 1)) (hp0 : x1.toInt < 3 ∨ 16 < x1.toInt ∨ 10 ≤ s1.toInt) : MX l K yX9_bar cX9_bar 2 (some .int) 0 0 0 0 [.ref a0, .int x1] H (AE G [] H.size) (fun v H1 => ∃ (r : Int32), v = some (.int r) ∧ ((-1) ≤ r.toInt ∧ r.toInt ≤ (-1)) ∧ TY K G H1) := by
  refine MX.of (by decide +kernel) (Nat.le_of_ble_eq_true rfl) ?_
  intro p e s m below meth c ls Q C hH hl hQ
  subst hH
  have C : CX p K s m _ meth c RX9 cX9_bar 2 (some .int) "bar" := C
  obtain ⟨hx, hb, hml, hown, hts, hKT, hr, hlocks, hnm⟩ := id C
  have hl : lv_has ls 2 [(0, .ref a0), (1, .int x1)] := hl
  have hS : va_S (AE G [] s.heap.size) s.heap s.heap [] := va_S.rf
  have n_m1 : ((-1) : Int32).toInt = -1 := rfl
  have n_3 : (3 : Int32).toInt = 3 := rfl
  have n_10 : (10 : Int32).toInt = 10 := rfl
  have n_16 : (16 : Int32).toInt = 16 := rfl
  have bs1 := ty_fi (x := s1) (k := 1) es1 hT gw0 rg_0 rfl
  refine lv_iload_n hx hb dX9_bar_0 rfl (lv_at hl 1 rfl) ?_
  refine lv_iconst (v := 3) hx hb dX9_bar_1 (by decide) ?_
  refine lv_icmp_lt (tgt := 23) hx hb dX9_bar_2 (by decide) (fun c133 => ?_) (fun c133 => ?_)
  · have k134 := i_lt c133
    refine lv_iconst (v := (-1)) hx hb dX9_bar_23 (by decide) ?_
    exact x_iret C hQ dX9_bar_24 hS (by decide) (by decide) (⟨(-1), rfl, by decide, hT⟩)
  · have k134 := i_nlt c133
    refine lv_iload_n hx hb dX9_bar_5 rfl (lv_at hl 1 rfl) ?_
    refine lv_bipush (v := 16) hx hb dX9_bar_6 (by decide) ?_
    refine lv_icmp_gt (tgt := 23) hx hb dX9_bar_8 (by decide) (fun c135 => ?_) (fun c135 => ?_)
    · have k136 := i_lt c135
      refine lv_iconst (v := (-1)) hx hb dX9_bar_23 (by decide) ?_
      exact x_iret C hQ dX9_bar_24 hS (by decide) (by decide) (⟨(-1), rfl, by decide, hT⟩)
    · have k136 := i_nlt c135
      refine lv_aload_n hx hb dX9_bar_11 rfl (lv_at hl 0 rfl) ?_
      refine x_gr C hT (ci := 9) (k := 0) rfl inX9 (by decide) wF_X9_12 ga0 rg_68 rfl dX9_bar_12 (fun q137 eq137 gq137 => ?_)
      have uq137 : w0 = q137 := (ew0).trans eq137.symm
      subst uq137
      refine x_gi C hT (ci := 8) (k := 1) rfl inX8 (by decide) wF_X9_64 gw0 rg_0 rfl dX9_bar_15 (fun x138 ex138 bx138 => ?_)
      have ux138 : s1 = x138 := (es1).trans ex138.symm
      subst ux138
      refine lv_bipush (v := 10) hx hb dX9_bar_18 (by decide) ?_
      refine lv_icmp_lt (tgt := 25) hx hb dX9_bar_20 (by decide) (fun c139 => ?_) (fun c139 => ?_)
      · have k140 := i_lt c139
        exfalso
        omega
      · have k140 := i_nlt c139
        refine lv_iconst (v := (-1)) hx hb dX9_bar_23 (by decide) ?_
        exact x_iret C hQ dX9_bar_24 hS (by decide) (by decide) (⟨(-1), rfl, by decide, hT⟩)
