/-! ===== bounds of an array's places; digits ===== -/
def AB (H : Heap) (q n : Nat) (lo hi : Int) : Prop := ∀ j : Nat, j < n → lo ≤ (fI H q j).toInt ∧ (fI H q j).toInt ≤ hi
theorem AB.kept {H H1 : Heap} {q n : Nat} {lo hi : Int} (e : ∀ j : Nat, fI H1 q j = fI H q j) (h : AB H q n lo hi) : AB H1 q n lo hi := fun j hj => by rw [e j]; exact h j hj
theorem AB.weak {H : Heap} {q n n' : Nat} {lo hi lo' hi' : Int} (h : AB H q n lo hi) (h1 : n' ≤ n) (h2 : lo' ≤ lo) (h3 : hi ≤ hi') : AB H q n' lo' hi' := fun j hj => by have := h j (by omega); omega
theorem AB.nil {H : Heap} {q : Nat} {lo hi : Int} : AB H q 0 lo hi := fun j hj => by omega
theorem AB.at {H : Heap} {q n : Nat} {lo hi : Int} {x j : Int32} (h : AB H q n lo hi) (e : x = fI H q j.toNatClampNeg) (hj : j.toNatClampNeg < n) : lo ≤ x.toInt ∧ x.toInt ≤ hi := by rw [e]; exact h _ hj
theorem AB.put {H H1 : Heap} {q n : Nat} {lo hi : Int} {i : Nat} {x : Int32} (w : Wr H H1 q i (.int x)) (hx : lo ≤ x.toInt ∧ x.toInt ≤ hi) (h : AB H q n lo hi) : AB H1 q n lo hi := by
  intro j hj
  by_cases e : j = i
  · subst e; rw [Wr.I w]; exact hx
  · rw [Wr.neI w (Or.inr e)]; exact h j hj
theorem AB.ext {H H1 : Heap} {q n m : Nat} {lo hi : Int} {i : Nat} {x : Int32} (w : Wr H H1 q i (.int x)) (hx : lo ≤ x.toInt ∧ x.toInt ≤ hi) (h : AB H q n lo hi) (hi' : i = n) (hm : m = n + 1) : AB H1 q m lo hi := by
  intro j hj
  by_cases e : j = i
  · subst e; rw [Wr.I w]; exact hx
  · rw [Wr.neI w (Or.inr e)]; exact h j (by omega)
def dval (f : Nat → Int32) (m : Nat) : Nat → Nat
  | 0 => 0
  | n + 1 => dval f m n * m + (f n).toInt.toNat
theorem dval_congr {f g : Nat → Int32} (h : ∀ j, f j = g j) {m n : Nat} : dval f m n = dval g m n := by rw [show f = g from funext h]
theorem dval_same {f g : Nat → Int32} {m : Nat} : ∀ n, (∀ j, j < n → f j = g j) → dval f m n = dval g m n := by
  intro n
  induction n with
  | zero => intro _; rfl
  | succ n ih => intro h; rw [dval, dval, ih (fun j hj => h j (by omega)), h n (by omega)]
theorem dval_lt {H : Heap} {q m n : Nat} {hi : Int} (h : AB H q n 0 hi) (hm : hi < (m : Int)) : dval (fun j => fI H q j) m n < m ^ n := by
  induction n with
  | zero => simp [dval]
  | succ n ih =>
    have h1 := ih (fun j hj => h j (by omega))
    have h2 := h n (by omega)
    rw [dval, Nat.pow_succ]
    have h3 : (fI H q n).toInt.toNat < m := by omega
    have h4 : (dval (fun j => fI H q j) m n + 1) * m ≤ m ^ n * m := Nat.mul_le_mul_right m h1
    rw [Nat.add_mul, Nat.one_mul] at h4
    show _ + (fI H q n).toInt.toNat < _
    omega
theorem pw_le {m n : Nat} (hm : m ≤ 4) (hn : n ≤ 5) : m ^ n ≤ 1024 := Nat.le_trans (Nat.pow_le_pow_left hm n) (Nat.le_trans (Nat.pow_le_pow_right (by decide) hn) (by decide))
theorem dval_zero {H : Heap} {q m n : Nat} (h : AB H q n 0 0) : dval (fun j => fI H q j) m n = 0 := by
  induction n with
  | zero => rfl
  | succ n ih =>
    have h2 := h n (by omega)
    rw [dval, ih (fun j hj => h j (by omega))]
    show 0 * m + (fI H q n).toInt.toNat = 0
    omega
/-- behind k the digits were the last ones and are 0 now -/
def GI (f0 f : Nat → Int32) (n k m : Int) : Prop := ∀ j : Nat, (j : Int) < n → (k < (j : Int) → (f0 j).toInt = m - 1 ∧ (f j).toInt = 0) ∧ ((j : Int) ≤ k → f j = f0 j)
theorem GI.nil {f : Nat → Int32} {n k m : Int} (hk : n ≤ k + 1) : GI f f n k m := fun j hj => ⟨fun h => by omega, fun _ => rfl⟩
theorem GI.step {f0 f f1 : Nat → Int32} {n k k' m : Int} {i : Nat} (h : GI f0 f n k m) (hi : (i : Int) = k) (hk : k < n) (hx : (f i).toInt = m - 1) (ho : ∀ j, j ≠ i → f1 j = f j) (h0 : (f1 i).toInt = 0) (hk' : k' = k - 1) : GI f0 f1 n k' m := by
  intro j hj
  by_cases e : j = i
  · subst e
    exact ⟨fun _ => ⟨by rw [← (h j hj).2 (by omega)]; exact hx, h0⟩, fun h1 => by omega⟩
  · rw [ho j e]
    exact ⟨fun h1 => (h j hj).1 (by omega), fun h1 => (h j hj).2 (by omega)⟩
theorem GI.inc {f0 f f1 : Nat → Int32} {n i m : Nat} {k mi : Int} (h : GI f0 f n k mi) (hm : mi = (m : Int)) (hm1 : 1 ≤ m) (hi : (i : Int) = k) (hk : i < n) (ho : ∀ j, j ≠ i → f1 j = f j) (h1 : (f1 i).toInt = (f i).toInt + 1) (hp : 0 ≤ (f i).toInt) : dval f1 m n = dval f0 m n + 1 := by
  have key : ∀ d, i + 1 + d ≤ n → dval f1 m (i + 1 + d) = dval f0 m (i + 1 + d) + 1 := by
    intro d
    induction d with
    | zero =>
      intro _
      have e1 : dval f1 m i = dval f0 m i := dval_same i (fun j hj => by rw [ho j (by omega)]; exact (h j (by omega)).2 (by omega))
      have e2 : f i = f0 i := (h i (by omega)).2 (by omega)
      show dval f1 m i * m + (f1 i).toInt.toNat = dval f0 m i * m + (f0 i).toInt.toNat + 1
      rw [e1, h1, e2]
      rw [e2] at hp
      omega
    | succ d ih =>
      intro hd
      have e3 := ih (by omega)
      have e4 := (h (i + 1 + d) (by omega)).1 (by omega)
      have e5 := ho (i + 1 + d) (by omega)
      show dval f1 m (i + 1 + d) * m + (f1 (i + 1 + d)).toInt.toNat = dval f0 m (i + 1 + d) * m + (f0 (i + 1 + d)).toInt.toNat + 1
      rw [e3, e5, e4.1, e4.2, Nat.add_mul]
      omega
  have := key (n - (i + 1)) (by omega)
  rw [show i + 1 + (n - (i + 1)) = n by omega] at this
  exact this
theorem GI.ab {H H0 : Heap} {q n : Nat} {k m : Int} {hi : Int} (h : GI (fun j => fI H0 q j) (fun j => fI H q j) n k m) (h0 : AB H0 q n 0 hi) (hh : 0 ≤ hi) : AB H q n 0 hi := by
  intro j hj
  have h1 := h j (by omega)
  have h2 := h0 j hj
  dsimp only at h1
  by_cases e : k < (j : Int)
  · have := (h1.1 e).2
    omega
  · rw [h1.2 (by omega)]
    exact h2
set_option maxHeartbeats 4000000 in
set_option maxRecDepth 100000 in
theorem a_X10_does (l : Launch) (K : KE) (G : Nat → Option Nat) (H : Heap) {a0 : Nat} (x1 : Int32) (x2 : Int32) {slq : Nat} {ofq : Nat} (sz : Int32) (hT : TY K G H) (ga0 : G a0 = some 112) (hx1 : 0 ≤ x1.toInt ∧ x1.toInt ≤ 9) (hx2 : 0 ≤ x2.toInt ∧ x2.toInt ≤ 5) (gslq : G slq = some 113) (eslq : slq = fR H a0 (K.1.2 10 4)) (gofq : G ofq = some 145) (eofq : ofq = fR H a0 (K.1.2 10 49)) (esz : sz = fI H slq (x1 : Int32).toNatClampNeg) (hp0 : sz.toInt ≤ 8) : MX l K yX10_does cX10_does 6 (some .boolean) 2 50 0 0 [.ref a0, .int x1, .int x2] H (AE G [145] H.size) (fun v H1 => ∃ (r : Int32), v = some (.int r) ∧ (0 ≤ r.toInt ∧ r.toInt ≤ 1) ∧ TY K G H1) := by
  refine MX.of (by decide +kernel) (Nat.le_of_ble_eq_true rfl) ?_
  intro p e s m below meth c ls Q C hH hl hQ
  subst hH
  have C : CX p K s m _ meth c RX10 cX10_does 6 (some .boolean) "does" := C
  obtain ⟨hx, hb, hml, hown, hts, hKT, hr, hlocks, hnm⟩ := id C
  have hl : lv_has ls 6 [(0, .ref a0), (1, .int x1), (2, .int x2)] := hl
  have hS : va_S (AE G [145] s.heap.size) s.heap s.heap [] := va_S.rf
  have n_0 : (0 : Int32).toInt = 0 := rfl
  have n_1 : (1 : Int32).toInt = 1 := rfl
  have n_2 : (2 : Int32).toInt = 2 := rfl
  have n_8 : (8 : Int32).toInt = 8 := rfl
  have n_16 : (16 : Int32).toInt = 16 := rfl
  have bsz := ty_ai (x := sz) esz hT gslq rg_113 (by omega)
  have hap : ∀ x y, x < 74 → y < 74 → x ≠ y → K.1.2 10 x ≠ K.1.2 10 y := x_apart hKT hts inX10 tyX10 tyX10_ok nmX10 rfl
  have J2 : ∀ (nf : Nat) (ls750 : Array Slot) (H749 : Heap) (locsH749 : List Loc) (x752 : Int32), lv_has ls750 6 [(0, .ref a0), (1, .int x1), (2, .int x2), (3, .int x752)] → TY K G H749 → va_S (AE G [145] s.heap.size) s.heap H749 locsH749 → (0 ≤ x752.toInt ∧ x752.toInt ≤ 8) → (slq = fR H749 a0 (K.1.2 10 4)) → (ofq = fR H749 a0 (K.1.2 10 49)) → (sz = fI H749 slq (x1 : Int32).toNatClampNeg) → (AB H749 ofq (x752.toNatClampNeg) (0) (0)) → (8 - x752.toInt < (nf : Int)) → W p l e ({ frames := 2, cells := 0, slots := 0, locals := 50 } : Room) s m (([.ref a0, .int x1, .int x2] : List Value).toArray) below meth c H749 locsH749 0 0 Q (F0 m 2 ls750 []) := by
    intro nf
    induction nf with
    | zero =>
      intro ls750 H749 locsH749 x752 hl751 hTH749 hSH749 bx752 cy753_0 cy753_1 cy753_2 by753_of hm2
      exfalso
      omega
    | succ nf ih2 =>
      intro ls750 H749 locsH749 x752 hl751 hTH749 hSH749 bx752 cy753_0 cy753_1 cy753_2 by753_of hm2
      have J30 : ∀ (nf : Nat) (ls755 : Array Slot) (H754 : Heap) (locsH754 : List Loc) (x757 : Int32) (x758 : Int32), lv_has ls755 6 [(0, .ref a0), (1, .int x1), (2, .int x2), (3, .int x757), (4, .int x758)] → TY K G H754 → va_S (AE G [145] s.heap.size) s.heap H754 locsH754 → (0 ≤ x757.toInt ∧ x757.toInt ≤ 2) → (0 ≤ x758.toInt ∧ x758.toInt ≤ 5) → (slq = fR H754 a0 (K.1.2 10 4)) → (ofq = fR H754 a0 (K.1.2 10 49)) → (sz = fI H754 slq (x1 : Int32).toNatClampNeg) → (AB H754 ofq (8) (0) (x758.toInt)) → (5 - x758.toInt < (nf : Int)) → W p l e ({ frames := 2, cells := 0, slots := 0, locals := 50 } : Room) s m (([.ref a0, .int x1, .int x2] : List Value).toArray) below meth c H754 locsH754 0 0 Q (F0 m 30 ls755 []) := by
        intro nf
        induction nf with
        | zero =>
          intro ls755 H754 locsH754 x757 x758 hl756 hTH754 hSH754 bx757 bx758 cy759_0 cy759_1 cy759_2 by759_of hm30
          exfalso
          omega
        | succ nf ih30 =>
          intro ls755 H754 locsH754 x757 x758 hl756 hTH754 hSH754 bx757 bx758 cy759_0 cy759_1 cy759_2 by759_of hm30
          have J113 : ∀ (ls761 : Array Slot) (H760 : Heap) (locsH760 : List Loc) (x763 : Int32), lv_has ls761 6 [] → TY K G H760 → va_S (AE G [145] s.heap.size) s.heap H760 locsH760 → (0 ≤ x763.toInt ∧ x763.toInt ≤ 1) → (slq = fR H760 a0 (K.1.2 10 4)) → (ofq = fR H760 a0 (K.1.2 10 49)) → (sz = fI H760 slq (x1 : Int32).toNatClampNeg) → W p l e ({ frames := 2, cells := 0, slots := 0, locals := 50 } : Room) s m (([.ref a0, .int x1, .int x2] : List Value).toArray) below meth c H760 locsH760 0 0 Q (F0 m 113 ls761 [.int x763]) := by
            intro ls761 H760 locsH760 x763 hl762 hTH760 hSH760 bx763 cy764_0 cy764_1 cy764_2
            exact x_zret C hQ (i_01 (by omega)) dX10_does_113 hSH760 (by decide) (by decide) (⟨x763, rfl, by omega, hTH760⟩)
          refine lv_iload hx hb dX10_does_30 (lv_at hl756 4 rfl) ?_
          refine lv_iload_n hx hb dX10_does_32 rfl (lv_at hl756 2 rfl) ?_
          refine lv_icmp_ge (tgt := 103) hx hb dX10_does_33 (by decide) (fun c765 => ?_) (fun c765 => ?_)
          · have k766 := i_le c765
            refine lv_iload_n hx hb dX10_does_103 rfl (lv_at hl756 3 rfl) ?_
            refine lv_iconst (v := 2) hx hb dX10_does_104 (by decide) ?_
            refine lv_icmp_ne (tgt := 112) hx hb dX10_does_105 (by decide) (fun c767 => ?_) (fun c767 => ?_)
            · have k768 := i_ne c767
              refine lv_iconst (v := 0) hx hb dX10_does_112 (by decide) ?_
              exact J113 ls755 H754 locsH754 (0) (lv_sub hl756 [] rfl) hTH754 hSH754 (by decide) cy759_0 cy759_1 cy759_2
            · have k768 := i_eq c767
              refine lv_iconst (v := 1) hx hb dX10_does_108 (by decide) ?_
              refine lv_goto (tgt := 113) hx hb dX10_does_109 (by decide) ?_
              exact J113 ls755 H754 locsH754 (1) (lv_sub hl756 [] rfl) hTH754 hSH754 (by decide) cy759_0 cy759_1 cy759_2
          · have k766 := i_nle c765
            refine lv_aload_n hx hb dX10_does_36 rfl (lv_at hl756 0 rfl) ?_
            refine x_gr C hTH754 (ci := 10) (k := 45) rfl inX10 (by decide) wF_X10_101 ga0 rg_112 rfl dX10_does_37 (fun q769 eq769 gq769 => ?_)
            refine lv_iload hx hb dX10_does_40 (lv_at hl756 4 rfl) ?_
            refine x_ai C hTH754 gq769 rg_141 ⟨by omega, by show _ < ((5 : Nat) : Int); omega⟩ dX10_does_42 (fun x770 ex770 bx770 => ?_)
            refine lv_istore (lv' := [(5, .int x770), (0, .ref a0), (1, .int x1), (2, .int x2), (3, .int x757), (4, .int x758)]) hx hb dX10_does_43 hl756 (by decide) rfl (fun ls771 hl772 => ?_)
            refine lv_aload_n hx hb dX10_does_45 rfl (lv_at hl772 1 rfl) ?_
            refine x_gr C hTH754 (ci := 10) (k := 49) rfl inX10 (by decide) wF_X10_113 ga0 rg_112 rfl dX10_does_46 (fun q773 eq773 gq773 => ?_)
            have uq773 : ofq = q773 := (cy759_1).trans eq773.symm
            subst uq773
            refine lv_iload hx hb dX10_does_49 (lv_at hl772 0 rfl) ?_
            refine lv_aload_n hx hb dX10_does_51 rfl (lv_at hl772 1 rfl) ?_
            refine x_gr C hTH754 (ci := 10) (k := 49) rfl inX10 (by decide) wF_X10_113 ga0 rg_112 rfl dX10_does_52 (fun q774 eq774 gq774 => ?_)
            have uq774 : ofq = q774 := (cy759_1).trans eq774.symm
            subst uq774
            refine lv_iload hx hb dX10_does_55 (lv_at hl772 0 rfl) ?_
            refine x_ai C hTH754 gofq rg_145 ⟨by omega, by show _ < ((8 : Nat) : Int); omega⟩ dX10_does_57 (fun x775 ex775 bx775 => ?_)
            have clx775 := i_cl (x := x770) (by omega)
            have abx775 := (by759_of).at ex775 (by omega)
            refine lv_iconst (v := 1) hx hb dX10_does_58 (by decide) ?_
            refine lv_iadd hx hb dX10_does_59 ?_
            refine lv_topi (fun x776 ex776 => ?_)
            have tx776 := i_add ex776 (by omega)
            refine x_iast C hTH754 hSH754 gofq rg_145 (by omega) (by show _ < ((8 : Nat) : Int); omega) ⟨by have := i_rng x776; omega, by have := i_rng x776; omega⟩ (AE_in gofq (by decide)) dX10_does_60 (fun H777 locsH777 hTH777 hSH777 wH777 => ?_)
            have b778 : AB H777 ofq (8) (0) (x758.toInt + 1) := (AB.put wH777 (by omega) (AB.weak by759_of (Nat.le_refl _) (by omega) (by omega)))
            have m779 := cy759_0.trans (Wr.neR wH777 (Or.inl (G_ne ga0 gofq (by decide)))).symm
            have m780 := cy759_1.trans (Wr.neR wH777 (Or.inl (G_ne ga0 gofq (by decide)))).symm
            have m781 := cy759_2.trans (Wr.neI wH777 (Or.inl (G_ne gslq gofq (by decide)))).symm
            have m782 := eq769.trans (Wr.neR wH777 (Or.inl (G_ne ga0 gofq (by decide)))).symm
            have m783 := ex770.trans (Wr.neI wH777 (Or.inl (G_ne gq769 gofq (by decide)))).symm
            have m785 := Wr.I wH777
            have m785 := m785.symm
            refine lv_aload_n hx hb dX10_does_61 rfl (lv_at hl772 1 rfl) ?_
            refine x_gr C hTH777 (ci := 10) (k := 5) rfl inX10 (by decide) wF_X10_17 ga0 rg_112 rfl dX10_does_62 (fun q786 eq786 gq786 => ?_)
            refine lv_bipush (v := 16) hx hb dX10_does_65 (by decide) ?_
            refine lv_iload_n hx hb dX10_does_67 rfl (lv_at hl772 2 rfl) ?_
            refine lv_imul hx hb dX10_does_68 ?_
            refine lv_topi (fun x787 ex787 => ?_)
            have tx787 := i_mul ex787 (by rw [n_16]; omega)
            rw [n_16] at tx787
            refine lv_iload hx hb dX10_does_69 (lv_at hl772 0 rfl) ?_
            refine lv_iadd hx hb dX10_does_71 ?_
            refine lv_topi (fun x788 ex788 => ?_)
            have tx788 := i_add ex788 (by omega)
            refine x_ai C hTH777 gq786 rg_114 ⟨by omega, by show _ < ((160 : Nat) : Int); omega⟩ dX10_does_72 (fun x789 ex789 bx789 => ?_)
            refine lv_aload_n hx hb dX10_does_73 rfl (lv_at hl772 1 rfl) ?_
            refine x_gr C hTH777 (ci := 10) (k := 49) rfl inX10 (by decide) wF_X10_113 ga0 rg_112 rfl dX10_does_74 (fun q790 eq790 gq790 => ?_)
            have uq790 : ofq = q790 := (m780).trans eq790.symm
            subst uq790
            refine lv_iload hx hb dX10_does_77 (lv_at hl772 0 rfl) ?_
            refine x_ai C hTH777 gofq rg_145 ⟨by omega, by show _ < ((8 : Nat) : Int); omega⟩ dX10_does_79 (fun x791 ex791 bx791 => ?_)
            have ux791 : x776 = x791 := (m785).trans ex791.symm
            subst ux791
            refine lv_icmp_gt (tgt := 85) hx hb dX10_does_80 (by decide) (fun c792 => ?_) (fun c792 => ?_)
            · have k793 := i_lt c792
              refine lv_aload_n hx hb dX10_does_85 rfl (lv_at hl772 1 rfl) ?_
              refine lv_iload_n hx hb dX10_does_86 rfl (lv_at hl772 2 rfl) ?_
              refine x_V (As := [.int x1]) (rest := []) C (a_X10_wouldBe l K G H777 (x1) (sz) hTH777 ga0 (by omega) gslq m779 m781 (by omega)) yo_X10_wouldBe wM_X10_359 ⟨⟨by decide, by decide⟩, by decide, by decide⟩ (x_rv C hTH777 (ci := 10) rfl ga0 rg_112) rfl hl772.1 rfl (Nat.le_of_ble_eq_true rfl) dX10_does_87 hSH777 (AE_sub (fun _ _ => rfl) (by decide) hSH777.1) (fun vH794 H794 locsH794 pH794 zH794 kH794 hSH794 => ?_)
              obtain ⟨x795, hvH794, bx795, hTH794⟩ := pH794
              subst hvH794
              have b796 : AB H794 ofq (8) (0) (x758.toInt + 1) := AB.kept (fun j => fI_kept (x_lt hTH777 kH794 gofq (by decide))) b778
              have m797 := (m779).trans (fR_kept (x_lt hTH777 kH794 ga0 (by decide))).symm
              have m798 := (m780).trans (fR_kept (x_lt hTH777 kH794 ga0 (by decide))).symm
              have m799 := (m781).trans (fI_kept (x_lt hTH777 kH794 gslq (by decide))).symm
              have m800 := (m782).trans (fR_kept (x_lt hTH777 kH794 ga0 (by decide))).symm
              have m801 := (m783).trans (fI_kept (x_lt hTH777 kH794 gq769 (by decide))).symm
              have m802 := (m785).trans (fI_kept (x_lt hTH777 kH794 gofq (by decide))).symm
              have m803 := (eq786).trans (fR_kept (x_lt hTH777 kH794 ga0 (by decide))).symm
              have m804 := (ex789).trans (fI_kept (x_lt hTH777 kH794 gq786 (by decide))).symm
              refine W.eq (g2 := F0 m 90 ls771 [.int x795]) rfl ?_
              refine lv_istore_n (lv' := [(3, .int x795), (5, .int x770), (0, .ref a0), (1, .int x1), (2, .int x2), (4, .int x758)]) hx hb dX10_does_90 rfl hl772 (by decide) rfl (fun ls805 hl806 => ?_)
              refine lv_iload_n hx hb dX10_does_91 rfl (lv_at hl806 0 rfl) ?_
              refine lv_if_ne (tgt := 97) hx hb dX10_does_92 (by decide) (fun c807 => ?_) (fun c807 => ?_)
              · have k808 := i_ne c807
                obtain ⟨x809, ex809⟩ : ∃ y : Int32, y = x758 + 1 := ⟨_, rfl⟩
                have tx809 := i_add ex809 (by omega)
                refine lv_iinc (v := x809) (lv' := [(4, .int x809), (3, .int x795), (5, .int x770), (0, .ref a0), (1, .int x1), (2, .int x2)]) hx hb dX10_does_97 hl806 (k := 5) rfl (by rw [ex809]; rfl) (by decide) rfl (fun ls810 hl811 => ?_)
                refine lv_goto (tgt := 30) hx hb dX10_does_100 (by decide) ?_
                exact ih30 ls810 H794 locsH794 (x795) (x809) (lv_sub hl811 [3, 4, 5, 1, 0] rfl) hTH794 hSH794 (by have := i_rng x795; omega) (by have := i_rng x809; omega) m797 m798 m799 (AB.weak b796 (by omega) (by omega) (by omega)) (by omega)
              · have k808 := i_eq c807
                refine lv_iconst (v := 0) hx hb dX10_does_95 (by decide) ?_
                exact x_zret C hQ (Or.inl rfl) dX10_does_96 hSH794 (by decide) (by decide) (⟨0, rfl, by decide, hTH794⟩)
            · have k793 := i_nlt c792
              refine lv_iconst (v := 0) hx hb dX10_does_83 (by decide) ?_
              exact x_zret C hQ (Or.inl rfl) dX10_does_84 hSH777 (by decide) (by decide) (⟨0, rfl, by decide, hTH777⟩)
      refine lv_iload_n hx hb dX10_does_2 rfl (lv_at hl751 3 rfl) ?_
      refine lv_bipush (v := 8) hx hb dX10_does_3 (by decide) ?_
      refine lv_icmp_ge (tgt := 21) hx hb dX10_does_5 (by decide) (fun c812 => ?_) (fun c812 => ?_)
      · have k813 := i_le c812
        refine lv_aload_n hx hb dX10_does_21 rfl (lv_at hl751 0 rfl) ?_
        refine lv_iload_n hx hb dX10_does_22 rfl (lv_at hl751 1 rfl) ?_
        refine x_V (As := [.int x1]) (rest := []) C (a_X10_wouldBe l K G H749 (x1) (sz) hTH749 ga0 (by omega) gslq cy753_0 cy753_2 (by omega)) yo_X10_wouldBe wM_X10_359 ⟨⟨by decide, by decide⟩, by decide, by decide⟩ (x_rv C hTH749 (ci := 10) rfl ga0 rg_112) rfl hl751.1 rfl (Nat.le_of_ble_eq_true rfl) dX10_does_23 hSH749 (AE_sub (fun _ _ => rfl) (by decide) hSH749.1) (fun vH814 H814 locsH814 pH814 zH814 kH814 hSH814 => ?_)
        obtain ⟨x815, hvH814, bx815, hTH814⟩ := pH814
        subst hvH814
        have b816 : AB H814 ofq (x752.toNatClampNeg) (0) (0) := AB.kept (fun j => fI_kept (x_lt hTH749 kH814 gofq (by decide))) by753_of
        have m817 := (cy753_0).trans (fR_kept (x_lt hTH749 kH814 ga0 (by decide))).symm
        have m818 := (cy753_1).trans (fR_kept (x_lt hTH749 kH814 ga0 (by decide))).symm
        have m819 := (cy753_2).trans (fI_kept (x_lt hTH749 kH814 gslq (by decide))).symm
        refine W.eq (g2 := F0 m 26 ls750 [.int x815]) rfl ?_
        refine lv_istore_n (lv' := [(3, .int x815), (0, .ref a0), (1, .int x1), (2, .int x2)]) hx hb dX10_does_26 rfl hl751 (by decide) rfl (fun ls820 hl821 => ?_)
        refine lv_iconst (v := 0) hx hb dX10_does_27 (by decide) ?_
        refine lv_istore (lv' := [(4, .int 0), (3, .int x815), (0, .ref a0), (1, .int x1), (2, .int x2)]) hx hb dX10_does_28 hl821 (by decide) rfl (fun ls822 hl823 => ?_)
        have cl_x752 := i_cl (x := x752) (by omega)
        exact J30 ((5 - (0 : Int32).toInt).toNat + 1) ls822 H814 locsH814 (x815) (0) (lv_sub hl823 [2, 3, 4, 1, 0] rfl) hTH814 hSH814 (by have := i_rng x815; omega) (by decide) m817 m818 m819 (AB.weak b816 (by omega) (by omega) (by omega)) (by omega)
      · have k813 := i_nle c812
        refine lv_aload_n hx hb dX10_does_8 rfl (lv_at hl751 0 rfl) ?_
        refine x_gr C hTH749 (ci := 10) (k := 49) rfl inX10 (by decide) wF_X10_113 ga0 rg_112 rfl dX10_does_9 (fun q824 eq824 gq824 => ?_)
        have uq824 : ofq = q824 := (cy753_1).trans eq824.symm
        subst uq824
        refine lv_iload_n hx hb dX10_does_12 rfl (lv_at hl751 3 rfl) ?_
        refine lv_iconst (v := 0) hx hb dX10_does_13 (by decide) ?_
        refine x_iast C hTH749 hSH749 gofq rg_145 (by omega) (by show _ < ((8 : Nat) : Int); omega) (by decide) (AE_in gofq (by decide)) dX10_does_14 (fun H825 locsH825 hTH825 hSH825 wH825 => ?_)
        have cjH825 := i_cl (x := x752) (by omega)
        have b827 : AB H825 ofq (x752.toNatClampNeg + 1) (0) (0) := (AB.ext wH825 (by decide) by753_of (by omega) rfl)
        have m828 := cy753_0.trans (Wr.neR wH825 (Or.inl (G_ne ga0 gofq (by decide)))).symm
        have m829 := cy753_1.trans (Wr.neR wH825 (Or.inl (G_ne ga0 gofq (by decide)))).symm
        have m830 := cy753_2.trans (Wr.neI wH825 (Or.inl (G_ne gslq gofq (by decide)))).symm
        have m831 := Wr.I wH825
        obtain ⟨x832, ex832⟩ : ∃ y : Int32, y = x752 + 1 := ⟨_, rfl⟩
        have tx832 := i_add ex832 (by omega)
        refine lv_iinc (v := x832) (lv' := [(3, .int x832), (0, .ref a0), (1, .int x1), (2, .int x2)]) hx hb dX10_does_15 hl751 (k := 3) rfl (by rw [ex832]; rfl) (by decide) rfl (fun ls833 hl834 => ?_)
        refine lv_goto (tgt := 2) hx hb dX10_does_18 (by decide) ?_
        have cl_x752 := i_cl (x := x752) (by omega)
        have cl_x832 := i_cl (x := x832) (by omega)
        exact ih2 ls833 H825 locsH825 (x832) (lv_sub hl834 [1, 2, 3, 0] rfl) hTH825 hSH825 (by have := i_rng x832; omega) m828 m829 m830 (AB.weak b827 (by omega) (by omega) (by omega)) (by omega)
  refine lv_iconst (v := 0) hx hb dX10_does_0 (by decide) ?_
  refine lv_istore_n (lv' := [(3, .int 0), (0, .ref a0), (1, .int x1), (2, .int x2)]) hx hb dX10_does_1 rfl hl (by decide) rfl (fun ls835 hl836 => ?_)
  have cl_0 := i_cl (x := (0 : Int32)) (by omega)
  exact J2 ((8 - (0 : Int32).toInt).toNat + 1) ls835 s.heap [] (0) (lv_sub hl836 [1, 2, 3, 0] rfl) hT hS (by decide) eslq eofq esz (AB.weak (AB.nil (H := s.heap) (q := ofq) (lo := 0) (hi := 0)) (by omega) (by omega) (by omega)) (by omega)

set_option maxHeartbeats 4000000 in
set_option maxRecDepth 100000 in
theorem a_X10_goesOn (l : Launch) (K : KE) (G : Nat → Option Nat) (H : Heap) {a0 : Nat} (x1 : Int32) (x2 : Int32) {rq : Nat} (hT : TY K G H) (ga0 : G a0 = some 112) (hx1 : 0 ≤ x1.toInt ∧ x1.toInt ≤ 5) (hx2 : 1 ≤ x2.toInt ∧ x2.toInt ≤ 8) (grq : G rq = some 141) (erq : rq = fR H a0 (K.1.2 10 45)) (hb_rw : AB H rq (x1.toNatClampNeg) (0) (x2.toInt - 1)) : MX l K yX10_goesOn cX10_goesOn 4 (some .boolean) 0 0 0 0 [.ref a0, .int x1, .int x2] H (AE G [141] H.size) (fun v H1 => ∃ (r : Int32), v = some (.int r) ∧ (0 ≤ r.toInt ∧ r.toInt ≤ 1) ∧ (AB H1 rq (x1.toNatClampNeg) (0) (x2.toInt - 1)) ∧ (r.toInt = 0 ∨ dval (fun j => fI H1 rq j) x2.toNatClampNeg x1.toNatClampNeg = dval (fun j => fI H rq j) x2.toNatClampNeg x1.toNatClampNeg + 1) ∧ TY K G H1) := by
  refine MX.of (by decide +kernel) (Nat.le_of_ble_eq_true rfl) ?_
  intro p e s m below meth c ls Q C hH hl hQ
  subst hH
  have C : CX p K s m _ meth c RX10 cX10_goesOn 4 (some .boolean) "goesOn" := C
  obtain ⟨hx, hb, hml, hown, hts, hKT, hr, hlocks, hnm⟩ := id C
  have hl : lv_has ls 4 [(0, .ref a0), (1, .int x1), (2, .int x2)] := hl
  have hS : va_S (AE G [141] s.heap.size) s.heap s.heap [] := va_S.rf
  have n_0 : (0 : Int32).toInt = 0 := rfl
  have n_1 : (1 : Int32).toInt = 1 := rfl
  have hap : ∀ x y, x < 74 → y < 74 → x ≠ y → K.1.2 10 x ≠ K.1.2 10 y := x_apart hKT hts inX10 tyX10 tyX10_ok nmX10 rfl
  have hx1n := i_cl (x := x1) (by omega)
  have hx2n := i_cl (x := x2) (by omega)
  have J4 : ∀ (nf : Nat)  (ls226 : Array Slot) (H225 : Heap) (locsH225 : List Loc) (x228 : Int32), lv_has ls226 4 [(0, .ref a0), (2, .int x2), (3, .int x228)] → TY K G H225 → va_S (AE G [141] s.heap.size) s.heap H225 locsH225 → ((-1) ≤ x228.toInt ∧ x228.toInt ≤ 4) → (rq = fR H225 a0 (K.1.2 10 45)) → (x228.toInt - (-1) < (nf : Int)) → (x228.toInt < x1.toInt) → (GI (fun j => fI s.heap rq j) (fun j => fI H225 rq j) (x1.toNatClampNeg : Int) x228.toInt x2.toInt) → W p l e ({ frames := 0, cells := 0, slots := 0, locals := 0 } : Room) s m (([.ref a0, .int x1, .int x2] : List Value).toArray) below meth c H225 locsH225 0 0 Q (F0 m 4 ls226 []) := by
    intro nf
    induction nf with
    | zero =>
      intro  ls226 H225 locsH225 x228 hl227 hTH225 hSH225 bx228 cy229_0 hm4 iv4 hgi
      exfalso
      omega
    | succ nf ih4 =>
      intro  ls226 H225 locsH225 x228 hl227 hTH225 hSH225 bx228 cy229_0 hm4 iv4 hgi
      have hab := GI.ab hgi hb_rw (by omega)
      refine lv_iload_n hx hb dX10_goesOn_4 rfl (lv_at hl227 2 rfl) ?_
      refine lv_if_lt (tgt := 34) hx hb dX10_goesOn_5 (by decide) (fun c230 => ?_) (fun c230 => ?_)
      · have k231 := i_lt c230
        refine lv_iload_n hx hb dX10_goesOn_34 rfl (lv_at hl227 2 rfl) ?_
        refine lv_if_ge (tgt := 40) hx hb dX10_goesOn_35 (by decide) (fun c232 => ?_) (fun c232 => ?_)
        · have k233 := i_le c232
          exfalso
          omega
        · have k233 := i_nle c232
          refine lv_iconst (v := 0) hx hb dX10_goesOn_38 (by decide) ?_
          exact x_zret C hQ (Or.inl rfl) dX10_goesOn_39 hSH225 (by decide) (by decide) (⟨0, rfl, by decide, hab, Or.inl rfl, hTH225⟩)
      · have k231 := i_nlt c230
        refine lv_aload_n hx hb dX10_goesOn_8 rfl (lv_at hl227 0 rfl) ?_
        refine x_gr C hTH225 (ci := 10) (k := 45) rfl inX10 (by decide) wF_X10_101 ga0 rg_112 rfl dX10_goesOn_9 (fun q234 eq234 gq234 => ?_)
        have uq234 : rq = q234 := (cy229_0).trans eq234.symm
        subst uq234
        refine lv_iload_n hx hb dX10_goesOn_12 rfl (lv_at hl227 2 rfl) ?_
        refine x_ai C hTH225 grq rg_141 ⟨by omega, by show _ < ((5 : Nat) : Int); omega⟩ dX10_goesOn_13 (fun x235 ex235 bx235 => ?_)
        have clx235 := i_cl (x := x228) (by omega)
        have abx235 := (hab).at ex235 (by omega)
        refine lv_iload_n hx hb dX10_goesOn_14 rfl (lv_at hl227 1 rfl) ?_
        refine lv_iconst (v := 1) hx hb dX10_goesOn_15 (by decide) ?_
        refine lv_isub hx hb dX10_goesOn_16 ?_
        refine lv_topi (fun x236 ex236 => ?_)
        have tx236 := i_sub ex236 (by omega)
        refine lv_icmp_ne (tgt := 34) hx hb dX10_goesOn_17 (by decide) (fun c237 => ?_) (fun c237 => ?_)
        · have k238 := i_ne c237
          refine lv_iload_n hx hb dX10_goesOn_34 rfl (lv_at hl227 2 rfl) ?_
          refine lv_if_ge (tgt := 40) hx hb dX10_goesOn_35 (by decide) (fun c239 => ?_) (fun c239 => ?_)
          · have k240 := i_le c239
            have ck := i_cl (x := x228) (by omega)
            refine lv_aload_n hx hb dX10_goesOn_40 rfl (lv_at hl227 0 rfl) ?_
            refine x_gr C hTH225 (ci := 10) (k := 45) rfl inX10 (by decide) wF_X10_101 ga0 rg_112 rfl dX10_goesOn_41 (fun q241 eq241 gq241 => ?_)
            have uq241 : rq = q241 := (cy229_0).trans eq241.symm
            subst uq241
            refine lv_iload_n hx hb dX10_goesOn_44 rfl (lv_at hl227 2 rfl) ?_
            refine lv_aload_n hx hb dX10_goesOn_45 rfl (lv_at hl227 0 rfl) ?_
            refine x_gr C hTH225 (ci := 10) (k := 45) rfl inX10 (by decide) wF_X10_101 ga0 rg_112 rfl dX10_goesOn_46 (fun q242 eq242 gq242 => ?_)
            have uq242 : rq = q242 := (cy229_0).trans eq242.symm
            subst uq242
            refine lv_iload_n hx hb dX10_goesOn_49 rfl (lv_at hl227 2 rfl) ?_
            refine x_ai C hTH225 grq rg_141 ⟨by omega, by show _ < ((5 : Nat) : Int); omega⟩ dX10_goesOn_50 (fun x243 ex243 bx243 => ?_)
            have ux243 : x235 = x243 := (ex235).trans ex243.symm
            subst ux243
            refine lv_iconst (v := 1) hx hb dX10_goesOn_51 (by decide) ?_
            refine lv_iadd hx hb dX10_goesOn_52 ?_
            refine lv_topi (fun x244 ex244 => ?_)
            have tx244 := i_add ex244 (by omega)
            refine x_iast C hTH225 hSH225 grq rg_141 (by omega) (by show _ < ((5 : Nat) : Int); omega) ⟨by have := i_rng x244; omega, by have := i_rng x244; omega⟩ (AE_in grq (by decide)) dX10_goesOn_53 (fun H245 locsH245 hTH245 hSH245 wH245 => ?_)
            have m246 := cy229_0.trans (Wr.neR wH245 (Or.inl (G_ne ga0 grq (by decide)))).symm
            have m248 := Wr.I wH245
            have m248 := m248.symm
            refine lv_iconst (v := 1) hx hb dX10_goesOn_54 (by decide) ?_
            exact x_zret C hQ (Or.inr rfl) dX10_goesOn_55 hSH245 (by decide) (by decide) (⟨1, rfl, by decide, AB.put wH245 (by omega) hab, Or.inr (GI.inc (n := x1.toNatClampNeg) (m := x2.toNatClampNeg) (i := x228.toNatClampNeg) hgi (by omega) (by omega) (by omega) (by omega) (fun j hj => Wr.neI wH245 (Or.inr hj)) (by show (fI _ rq _).toInt = (fI _ rq _).toInt + 1; rw [Wr.I wH245, ← ex235]; omega) (by show 0 ≤ (fI _ rq _).toInt; rw [← ex235]; omega)), hTH245⟩)
          · have k240 := i_nle c239
            exfalso
            omega
        · have k238 := i_eq c237
          refine lv_aload_n hx hb dX10_goesOn_20 rfl (lv_at hl227 0 rfl) ?_
          refine x_gr C hTH225 (ci := 10) (k := 45) rfl inX10 (by decide) wF_X10_101 ga0 rg_112 rfl dX10_goesOn_21 (fun q249 eq249 gq249 => ?_)
          have uq249 : rq = q249 := (cy229_0).trans eq249.symm
          subst uq249
          refine lv_iload_n hx hb dX10_goesOn_24 rfl (lv_at hl227 2 rfl) ?_
          refine lv_iconst (v := 0) hx hb dX10_goesOn_25 (by decide) ?_
          refine x_iast C hTH225 hSH225 grq rg_141 (by omega) (by show _ < ((5 : Nat) : Int); omega) (by decide) (AE_in grq (by decide)) dX10_goesOn_26 (fun H250 locsH250 hTH250 hSH250 wH250 => ?_)
          have m251 := cy229_0.trans (Wr.neR wH250 (Or.inl (G_ne ga0 grq (by decide)))).symm
          have m253 := Wr.I wH250
          refine lv_iload_n hx hb dX10_goesOn_27 rfl (lv_at hl227 2 rfl) ?_
          refine lv_iconst (v := 1) hx hb dX10_goesOn_28 (by decide) ?_
          refine lv_isub hx hb dX10_goesOn_29 ?_
          refine lv_topi (fun x254 ex254 => ?_)
          have tx254 := i_sub ex254 (by omega)
          refine lv_istore_n (lv' := [(3, .int x254), (0, .ref a0), (2, .int x2)]) hx hb dX10_goesOn_30 rfl hl227 (by decide) rfl (fun ls255 hl256 => ?_)
          refine lv_goto (tgt := 4) hx hb dX10_goesOn_31 (by decide) ?_
          have ck := i_cl (x := x228) (by omega)
          exact ih4  ls255 H250 locsH250 (x254) (lv_sub hl256 [1, 2, 0] rfl) hTH250 hSH250 (by have := i_rng x254; omega) m251 (by omega) (by omega) (GI.step hgi (i := x228.toNatClampNeg) (by omega) (by omega) (by show (fI _ rq _).toInt = _; rw [← ex235]; omega) (fun j hj => Wr.neI wH250 (Or.inr hj)) (by show (fI _ rq _).toInt = 0; rw [Wr.I wH250]; rfl) (by omega))
  refine lv_iload_n hx hb dX10_goesOn_0 rfl (lv_at hl 1 rfl) ?_
  refine lv_iconst (v := 1) hx hb dX10_goesOn_1 (by decide) ?_
  refine lv_isub hx hb dX10_goesOn_2 ?_
  refine lv_topi (fun x257 ex257 => ?_)
  have tx257 := i_sub ex257 (by omega)
  refine lv_istore_n (lv' := [(3, .int x257), (0, .ref a0), (1, .int x1), (2, .int x2)]) hx hb dX10_goesOn_3 rfl hl (by decide) rfl (fun ls258 hl259 => ?_)
  exact J4 ((x257.toInt - (-1)).toNat + 1)  ls258 s.heap [] (x257) (lv_sub hl259 [1, 3, 0] rfl) hT hS (by have := i_rng x257; omega) erq (by omega) (by omega) (GI.nil (by omega))

set_option maxHeartbeats 4000000 in
set_option maxRecDepth 100000 in
theorem a_X10_findsFewest (l : Launch) (K : KE) (G : Nat → Option Nat) (H : Heap) {a0 : Nat} (x1 : Int32) {slq : Nat} {rq : Nat} (sz : Int32) (hT : TY K G H) (ga0 : G a0 = some 112) (hx1 : 0 ≤ x1.toInt ∧ x1.toInt ≤ 9) (gslq : G slq = some 113) (eslq : slq = fR H a0 (K.1.2 10 4)) (grq : G rq = some 141) (erq : rq = fR H a0 (K.1.2 10 45)) (esz : sz = fI H slq (x1 : Int32).toNatClampNeg) (hg_CG : CG (avw K H a0)) (hp0 : sz.toInt ≤ 8) (hp1 : 1 ≤ sz.toInt) : MX l K yX10_findsFewest cX10_findsFewest 4 (some .int) 5 122 0 0 [.ref a0, .int x1] H (AE G [114, 143, 144, 145, 141, 140, 139] H.size) (fun v H1 => ∃ (r : Int32), v = some (.int r) ∧ ((-1) ≤ r.toInt ∧ r.toInt ≤ 5) ∧ TY K G H1) := by
  refine MX.of (by decide +kernel) (Nat.le_of_ble_eq_true rfl) ?_
  intro p e s m below meth c ls Q C hH hl hQ
  subst hH
  have C : CX p K s m _ meth c RX10 cX10_findsFewest 4 (some .int) "findsFewest" := C
  obtain ⟨hx, hb, hml, hown, hts, hKT, hr, hlocks, hnm⟩ := id C
  have hl : lv_has ls 4 [(0, .ref a0), (1, .int x1)] := hl
  have hS : va_S (AE G [114, 143, 144, 145, 141, 140, 139] s.heap.size) s.heap s.heap [] := va_S.rf
  have n_m1 : ((-1) : Int32).toInt = -1 := rfl
  have n_0 : (0 : Int32).toInt = 0 := rfl
  have n_1 : (1 : Int32).toInt = 1 := rfl
  have n_5 : (5 : Int32).toInt = 5 := rfl
  have bsz := ty_ai (x := sz) esz hT gslq rg_113 (by omega)
  have hap : ∀ x y, x < 74 → y < 74 → x ≠ y → K.1.2 10 x ≠ K.1.2 10 y := x_apart hKT hts inX10 tyX10 tyX10_ok nmX10 rfl
  have J7 : ∀ (nf : Nat) (ls714 : Array Slot) (H713 : Heap) (locsH713 : List Loc) (x716 : Int32), lv_has ls714 4 [(0, .ref a0), (1, .int x1), (2, .int x716)] → TY K G H713 → va_S (AE G [114, 143, 144, 145, 141, 140, 139] s.heap.size) s.heap H713 locsH713 → (0 ≤ x716.toInt ∧ x716.toInt ≤ 6) → (slq = fR H713 a0 (K.1.2 10 4)) → (rq = fR H713 a0 (K.1.2 10 45)) → (sz = fI H713 slq (x1 : Int32).toNatClampNeg) → (CG (avw K H713 a0)) → (6 - x716.toInt < (nf : Int)) → W p l e ({ frames := 5, cells := 0, slots := 0, locals := 122 } : Room) s m (([.ref a0, .int x1] : List Value).toArray) below meth c H713 locsH713 0 0 Q (F0 m 7 ls714 []) := by
    intro nf
    induction nf with
    | zero =>
      intro ls714 H713 locsH713 x716 hl715 hTH713 hSH713 bx716 cy717_0 cy717_1 cy717_2 gy717_CG hm7
      exfalso
      omega
    | succ nf ih7 =>
      intro ls714 H713 locsH713 x716 hl715 hTH713 hSH713 bx716 cy717_0 cy717_1 cy717_2 gy717_CG hm7
      have J14 : ∀ (nf : Nat) (ls719 : Array Slot) (H718 : Heap) (locsH718 : List Loc) (x722 : Int32), lv_has ls719 4 [(0, .ref a0), (1, .int x1), (2, .int x716), (3, .int x722)] → TY K G H718 → va_S (AE G [114, 143, 144, 145, 141, 140, 139] s.heap.size) s.heap H718 locsH718 → (0 ≤ x716.toInt ∧ x716.toInt ≤ 5) → (0 ≤ x722.toInt ∧ x722.toInt ≤ 5) → (slq = fR H718 a0 (K.1.2 10 4)) → (rq = fR H718 a0 (K.1.2 10 45)) → (sz = fI H718 slq (x1 : Int32).toNatClampNeg) → (AB H718 rq (x722.toNatClampNeg) (0) (0)) → (CG (avw K H718 a0)) → (5 - x722.toInt < (nf : Int)) → W p l e ({ frames := 5, cells := 0, slots := 0, locals := 122 } : Room) s m (([.ref a0, .int x1] : List Value).toArray) below meth c H718 locsH718 0 0 Q (F0 m 14 ls719 []) := by
        intro nf
        induction nf with
        | zero =>
          intro ls719 H718 locsH718 x722 hl720 hTH718 hSH718 b721 bx722 cy723_0 cy723_1 cy723_2 by723_rw gy723_CG hm14
          exfalso
          omega
        | succ nf ih14 =>
          intro ls719 H718 locsH718 x722 hl720 hTH718 hSH718 b721 bx722 cy723_0 cy723_1 cy723_2 by723_rw gy723_CG hm14
          have J34 : ∀ (nf : Nat) (V : Nat) (ls725 : Array Slot) (H724 : Heap) (locsH724 : List Loc) (x727 : Int32), lv_has ls725 4 [(0, .ref a0), (1, .int x1), (2, .int x716), (3, .int x727)] → TY K G H724 → va_S (AE G [114, 143, 144, 145, 141, 140, 139] s.heap.size) s.heap H724 locsH724 → (0 ≤ x727.toInt ∧ x727.toInt ≤ 1) → (slq = fR H724 a0 (K.1.2 10 4)) → (rq = fR H724 a0 (K.1.2 10 45)) → (sz = fI H724 slq (x1 : Int32).toNatClampNeg) → (AB H724 rq (x716.toNatClampNeg) (0) (sz.toInt - 1)) → (CG (avw K H724 a0)) → (((sz.toNatClampNeg ^ x716.toNatClampNeg : Nat) : Int) - (V : Int) + x727.toInt < (nf : Int)) → (x727.toInt = 0 ∨ dval (fun j => fI H724 rq j) sz.toNatClampNeg x716.toNatClampNeg = V) → (V ≤ sz.toNatClampNeg ^ x716.toNatClampNeg) → W p l e ({ frames := 5, cells := 0, slots := 0, locals := 122 } : Room) s m (([.ref a0, .int x1] : List Value).toArray) below meth c H724 locsH724 0 0 Q (F0 m 34 ls725 []) := by
            intro nf
            induction nf with
            | zero =>
              intro V ls725 H724 locsH724 x727 hl726 hTH724 hSH724 bx727 cy728_0 cy728_1 cy728_2 by728_rw gy728_CG hm34 hV1 hV2
              exfalso
              omega
            | succ nf ih34 =>
              intro V ls725 H724 locsH724 x727 hl726 hTH724 hSH724 bx727 cy728_0 cy728_1 cy728_2 by728_rw gy728_CG hm34 hV1 hV2
              have cn0 := i_cl (x := x716) (by omega)
              refine lv_iload_n hx hb dX10_findsFewest_34 rfl (lv_at hl726 3 rfl) ?_
              refine lv_if_eq (tgt := 64) hx hb dX10_findsFewest_35 (by decide) (fun c729 => ?_) (fun c729 => ?_)
              · have k730 := i_eq c729
                obtain ⟨x731, ex731⟩ : ∃ y : Int32, y = x716 + 1 := ⟨_, rfl⟩
                have tx731 := i_add ex731 (by omega)
                refine lv_iinc (v := x731) (lv' := [(2, .int x731), (0, .ref a0), (1, .int x1), (3, .int x727)]) hx hb dX10_findsFewest_64 hl726 (k := 2) rfl (by rw [ex731]; rfl) (by decide) rfl (fun ls732 hl733 => ?_)
                refine lv_goto (tgt := 7) hx hb dX10_findsFewest_67 (by decide) ?_
                exact ih7 ls732 H724 locsH724 (x731) (lv_sub hl733 [1, 2, 0] rfl) hTH724 hSH724 (by have := i_rng x731; omega) cy728_0 cy728_1 cy728_2 gy728_CG (by omega)
              · have k730 := i_ne c729
                have hv : dval (fun j => fI H724 rq j) sz.toNatClampNeg x716.toNatClampNeg = V := by omega
                have cm0 := i_cl (x := sz) (by omega)
                refine lv_aload_n hx hb dX10_findsFewest_38 rfl (lv_at hl726 0 rfl) ?_
                refine lv_iload_n hx hb dX10_findsFewest_39 rfl (lv_at hl726 1 rfl) ?_
                refine lv_iload_n hx hb dX10_findsFewest_40 rfl (lv_at hl726 2 rfl) ?_
                obtain ⟨q734, eq734⟩ : ∃ z : Nat, z = fR H724 a0 (K.1.2 10 49) := ⟨_, rfl⟩
                have gq734 := ty_fr (q := q734) (k := 49) (u := 145) eq734 hTH724 ga0 rg_112 rfl
                refine x_V (As := [.int x1, .int x716]) (rest := []) C (a_X10_does l K G H724 (x1) (x716) (sz) hTH724 ga0 (by omega) (by omega) gslq cy728_0 gq734 eq734 cy728_2 (by omega)) yo_X10_does wM_X10_365 ⟨⟨by decide, by decide⟩, by decide, by decide⟩ (x_rv C hTH724 (ci := 10) rfl ga0 rg_112) rfl hl726.1 rfl (Nat.le_of_ble_eq_true rfl) dX10_findsFewest_41 hSH724 (AE_sub (fun _ _ => rfl) (by decide) hSH724.1) (fun vH735 H735 locsH735 pH735 zH735 kH735 hSH735 => ?_)
                obtain ⟨x736, hvH735, bx736, hTH735⟩ := pH735
                subst hvH735
                have b737 : AB H735 rq (x716.toNatClampNeg) (0) (sz.toInt - 1) := AB.kept (fun j => fI_kept (x_lt hTH724 kH735 grq (by decide))) by728_rw
                have b738 : dval (fun j => fI H735 rq j) (sz.toNatClampNeg) (x716.toNatClampNeg) = V := (dval_congr (fun j => fI_kept (x_lt hTH724 kH735 grq (by decide)))).trans hv
                have g739 : CG (avw K H735 a0) := CG.congr (fun k hk j => av_eff hTH724 kH735 ga0 (by decide) (CG_eff [145] (by decide) k hk)) gy728_CG
                have m740 := (cy728_0).trans (fR_kept (x_lt hTH724 kH735 ga0 (by decide))).symm
                have m741 := (cy728_1).trans (fR_kept (x_lt hTH724 kH735 ga0 (by decide))).symm
                have m742 := (cy728_2).trans (fI_kept (x_lt hTH724 kH735 gslq (by decide))).symm
                have m743 := (eq734).trans (fR_kept (x_lt hTH724 kH735 ga0 (by decide))).symm
                refine W.eq (g2 := F0 m 44 ls725 [.int x736]) rfl ?_
                refine lv_if_eq (tgt := 49) hx hb dX10_findsFewest_44 (by decide) (fun c744 => ?_) (fun c744 => ?_)
                · have k745 := i_eq c744
                  refine lv_aload_n hx hb dX10_findsFewest_49 rfl (lv_at hl726 0 rfl) ?_
                  refine lv_iload_n hx hb dX10_findsFewest_50 rfl (lv_at hl726 2 rfl) ?_
                  refine lv_aload_n hx hb dX10_findsFewest_51 rfl (lv_at hl726 0 rfl) ?_
                  refine x_gr C hTH735 (ci := 10) (k := 4) rfl inX10 (by decide) wF_X10_13 ga0 rg_112 rfl dX10_findsFewest_52 (fun q746 eq746 gq746 => ?_)
                  have uq746 : slq = q746 := (m740).trans eq746.symm
                  subst uq746
                  refine lv_iload_n hx hb dX10_findsFewest_55 rfl (lv_at hl726 1 rfl) ?_
                  refine x_ai C hTH735 gslq rg_113 ⟨by omega, by show _ < ((10 : Nat) : Int); omega⟩ dX10_findsFewest_56 (fun x747 ex747 bx747 => ?_)
                  have ux747 : sz = x747 := (m742).trans ex747.symm
                  subst ux747
                  refine x_V (As := [.int x716, .int sz]) (rest := []) C (a_X10_goesOn l K G H735 (x716) (sz) hTH735 ga0 (by omega) (by omega) grq m741 (AB.weak b737 (by omega) (by omega) (by omega))) yo_X10_goesOn wM_X10_368 ⟨⟨by decide, by decide⟩, by decide, by decide⟩ (x_rv C hTH735 (ci := 10) rfl ga0 rg_112) rfl hl726.1 rfl (Nat.le_of_ble_eq_true rfl) dX10_findsFewest_57 hSH735 (AE_sub (fun _ _ => rfl) (by decide) hSH735.1) (fun vH748 H748 locsH748 pH748 zH748 kH748 hSH748 => ?_)
                  obtain ⟨x749, hvH748, bx749, b750, m751, hTH748⟩ := pH748
                  subst hvH748
                  have g752 : CG (avw K H748 a0) := CG.congr (fun k hk j => av_eff hTH735 kH748 ga0 (by decide) (CG_eff [141] (by decide) k hk)) g739
                  have m753 := (m740).trans (fR_kept (x_lt hTH735 kH748 ga0 (by decide))).symm
                  have m754 := (m741).trans (fR_kept (x_lt hTH735 kH748 ga0 (by decide))).symm
                  have m755 := (m742).trans (fI_kept (x_lt hTH735 kH748 gslq (by decide))).symm
                  have m756 := (m743).trans (fR_kept (x_lt hTH735 kH748 ga0 (by decide))).symm
                  refine W.eq (g2 := F0 m 60 ls725 [.int x749]) rfl ?_
                  refine lv_istore_n (lv' := [(3, .int x749), (0, .ref a0), (1, .int x1), (2, .int x716)]) hx hb dX10_findsFewest_60 rfl hl726 (by decide) rfl (fun ls757 hl758 => ?_)
                  refine lv_goto (tgt := 34) hx hb dX10_findsFewest_61 (by decide) ?_
                  have cl_x716 := i_cl (x := x716) (by omega)
                  have cg := i_cl (x := x749) (by omega)
                  have hlt := dval_lt (m := sz.toNatClampNeg) b750 (by omega)
                  have hgo := m751
                  have hdv := b738
                  exact ih34 (V + x749.toNatClampNeg) ls757 H748 locsH748 (x749) (lv_sub hl758 [1, 2, 3, 0] rfl) hTH748 hSH748 (by have := i_rng x749; omega) m753 m754 m755 (AB.weak b750 (by omega) (by omega) (by omega)) g752 (by omega) (by omega) (by omega)
                · have k745 := i_ne c744
                  refine lv_iload_n hx hb dX10_findsFewest_47 rfl (lv_at hl726 2 rfl) ?_
                  exact x_iret C hQ dX10_findsFewest_48 hSH735 (by decide) (by decide) (⟨x716, rfl, by omega, hTH735⟩)
          refine lv_iload_n hx hb dX10_findsFewest_14 rfl (lv_at hl720 3 rfl) ?_
          refine lv_iload_n hx hb dX10_findsFewest_15 rfl (lv_at hl720 2 rfl) ?_
          refine lv_icmp_ge (tgt := 32) hx hb dX10_findsFewest_16 (by decide) (fun c759 => ?_) (fun c759 => ?_)
          · have k760 := i_le c759
            refine lv_iconst (v := 1) hx hb dX10_findsFewest_32 (by decide) ?_
            refine lv_istore_n (lv' := [(3, .int 1), (0, .ref a0), (1, .int x1), (2, .int x716)]) hx hb dX10_findsFewest_33 rfl hl720 (by decide) rfl (fun ls761 hl762 => ?_)
            have cl_x716 := i_cl (x := x716) (by omega)
            have cl_x722 := i_cl (x := x722) (by omega)
            have cl0_x716 := i_cl (x := x716) (by omega)
            have cl0_x722 := i_cl (x := x722) (by omega)
            exact J34 ((((sz.toNatClampNeg ^ x716.toNatClampNeg : Nat) : Int) - ((0 : Nat) : Int) + (1 : Int32).toInt).toNat + 1) (0 : Nat) ls761 H718 locsH718 (1) (lv_sub hl762 [1, 2, 3, 0] rfl) hTH718 hSH718 (by decide) cy723_0 cy723_1 cy723_2 (AB.weak by723_rw (by omega) (by omega) (by omega)) gy723_CG (by omega) (Or.inr (dval_zero (AB.weak by723_rw (by omega) (by omega) (by omega)))) (Nat.zero_le _)
          · have k760 := i_nle c759
            refine lv_aload_n hx hb dX10_findsFewest_19 rfl (lv_at hl720 0 rfl) ?_
            refine x_gr C hTH718 (ci := 10) (k := 45) rfl inX10 (by decide) wF_X10_101 ga0 rg_112 rfl dX10_findsFewest_20 (fun q763 eq763 gq763 => ?_)
            have uq763 : rq = q763 := (cy723_1).trans eq763.symm
            subst uq763
            refine lv_iload_n hx hb dX10_findsFewest_23 rfl (lv_at hl720 3 rfl) ?_
            refine lv_iconst (v := 0) hx hb dX10_findsFewest_24 (by decide) ?_
            refine x_iast C hTH718 hSH718 grq rg_141 (by omega) (by show _ < ((5 : Nat) : Int); omega) (by decide) (AE_in grq (by decide)) dX10_findsFewest_25 (fun H764 locsH764 hTH764 hSH764 wH764 => ?_)
            have g765 : CG (avw K H764 a0) := CG.congr (fun k hk j => av_arr hTH718 ga0 wH764 grq (by decide) (CG_ok 141 (by decide) k hk)) gy723_CG
            have cjH764 := i_cl (x := x722) (by omega)
            have b766 : AB H764 rq (x722.toNatClampNeg + 1) (0) (0) := (AB.ext wH764 (by decide) by723_rw (by omega) rfl)
            have m767 := cy723_0.trans (Wr.neR wH764 (Or.inl (G_ne ga0 grq (by decide)))).symm
            have m768 := cy723_1.trans (Wr.neR wH764 (Or.inl (G_ne ga0 grq (by decide)))).symm
            have m769 := cy723_2.trans (Wr.neI wH764 (Or.inl (G_ne gslq grq (by decide)))).symm
            have m770 := Wr.I wH764
            obtain ⟨x771, ex771⟩ : ∃ y : Int32, y = x722 + 1 := ⟨_, rfl⟩
            have tx771 := i_add ex771 (by omega)
            refine lv_iinc (v := x771) (lv' := [(3, .int x771), (0, .ref a0), (1, .int x1), (2, .int x716)]) hx hb dX10_findsFewest_26 hl720 (k := 3) rfl (by rw [ex771]; rfl) (by decide) rfl (fun ls772 hl773 => ?_)
            refine lv_goto (tgt := 14) hx hb dX10_findsFewest_29 (by decide) ?_
            have cl_x722 := i_cl (x := x722) (by omega)
            have cl_x771 := i_cl (x := x771) (by omega)
            exact ih14 ls772 H764 locsH764 (x771) (lv_sub hl773 [1, 2, 3, 0] rfl) hTH764 hSH764 (by have := i_rng x716; omega) (by have := i_rng x771; omega) m767 m768 m769 (AB.weak b766 (by omega) (by omega) (by omega)) g765 (by omega)
      refine lv_iload_n hx hb dX10_findsFewest_7 rfl (lv_at hl715 2 rfl) ?_
      refine lv_iconst (v := 5) hx hb dX10_findsFewest_8 (by decide) ?_
      refine lv_icmp_gt (tgt := 70) hx hb dX10_findsFewest_9 (by decide) (fun c774 => ?_) (fun c774 => ?_)
      · have k775 := i_lt c774
        refine lv_iconst (v := (-1)) hx hb dX10_findsFewest_70 (by decide) ?_
        exact x_iret C hQ dX10_findsFewest_71 hSH713 (by decide) (by decide) (⟨(-1), rfl, by decide, hTH713⟩)
      · have k775 := i_nlt c774
        refine lv_iconst (v := 0) hx hb dX10_findsFewest_12 (by decide) ?_
        refine lv_istore_n (lv' := [(3, .int 0), (0, .ref a0), (1, .int x1), (2, .int x716)]) hx hb dX10_findsFewest_13 rfl hl715 (by decide) rfl (fun ls776 hl777 => ?_)
        have cl_0 := i_cl (x := (0 : Int32)) (by omega)
        exact J14 ((5 - (0 : Int32).toInt).toNat + 1) ls776 H713 locsH713 (0) (lv_sub hl777 [1, 2, 3, 0] rfl) hTH713 hSH713 (by have := i_rng x716; omega) (by decide) cy717_0 cy717_1 cy717_2 (AB.weak (AB.nil (H := H713) (q := rq) (lo := 0) (hi := 0)) (by omega) (by omega) (by omega)) gy717_CG (by omega)
  refine lv_aload_n hx hb dX10_findsFewest_0 rfl (lv_at hl 0 rfl) ?_
  refine lv_iload_n hx hb dX10_findsFewest_1 rfl (lv_at hl 1 rfl) ?_
  refine x_V (As := [.int x1]) (rest := []) C (a_X10_findsTable l K G s.heap (x1) (sz) hT ga0 (by omega) gslq eslq esz hg_CG (by omega)) yo_X10_findsTable wM_X10_362 ⟨⟨by decide, by decide⟩, by decide, by decide⟩ (x_rv C hT (ci := 10) rfl ga0 rg_112) rfl hl.1 rfl (Nat.le_of_ble_eq_true rfl) dX10_findsFewest_2 hS (AE_sub (fun _ _ => rfl) (by decide) hS.1) (fun vH778 H778 locsH778 pH778 zH778 kH778 hSH778 => ?_)
  obtain ⟨hvH778, hTH778⟩ := pH778
  subst hvH778
  have g779 : CG (avw K H778 a0) := CG.congr (fun k hk j => av_eff hT kH778 ga0 (by decide) (CG_eff [114, 143, 144, 140, 139] (by decide) k hk)) hg_CG
  have m780 := (eslq).trans (fR_kept (x_lt hT kH778 ga0 (by decide))).symm
  have m781 := (erq).trans (fR_kept (x_lt hT kH778 ga0 (by decide))).symm
  have m782 := (esz).trans (fI_kept (x_lt hT kH778 gslq (by decide))).symm
  refine W.eq (g2 := F0 m 5 ls []) rfl ?_
  refine lv_iconst (v := 0) hx hb dX10_findsFewest_5 (by decide) ?_
  refine lv_istore_n (lv' := [(2, .int 0), (0, .ref a0), (1, .int x1)]) hx hb dX10_findsFewest_6 rfl hl (by decide) rfl (fun ls783 hl784 => ?_)
  exact J7 ((6 - (0 : Int32).toInt).toNat + 1) ls783 H778 locsH778 (0) (lv_sub hl784 [1, 2, 0] rfl) hTH778 hSH778 (by decide) m780 m781 m782 g779 (by omega)

set_option maxHeartbeats 4000000 in
set_option maxRecDepth 100000 in
theorem a_X10_findsFits (l : Launch) (K : KE) (G : Nat → Option Nat) (H : Heap) {a0 : Nat} (x1 : Int32) (x2 : Int32) (x3 : Int32) {slq : Nat} {rq : Nat} (fm : Int32) (sz : Int32) (hT : TY K G H) (ga0 : G a0 = some 112) (hx1 : 0 ≤ x1.toInt ∧ x1.toInt ≤ 9) (hx2 : 1 ≤ x2.toInt ∧ x2.toInt ≤ 4) (gslq : G slq = some 113) (eslq : slq = fR H a0 (K.1.2 10 4)) (grq : G rq = some 141) (erq : rq = fR H a0 (K.1.2 10 45)) (efm : fm = fI H a0 (K.1.2 10 56)) (esz : sz = fI H slq (x1 : Int32).toNatClampNeg) (hg_CG : CG (avw K H a0)) (hg_TU : TU (avw K H a0) (svw K H a0)) (hg_WD : WD (avw K H a0)) (hg_IM : IM (avw K H a0)) (hp0 : sz.toInt ≤ 5) (hp1 : 1 ≤ sz.toInt) : MX l K yX10_findsFits cX10_findsFits 7 none 6 146 0 0 [.ref a0, .int x1, .int x2, .int x3] H (AE G [112, 151, 141, 115, 152, 140, 139] H.size) (fun v H1 => ∃ (t0 : Int32), v = none ∧ t0 = fI H1 a0 (K.1.2 10 56) ∧ slq = fR H1 a0 (K.1.2 10 4) ∧ rq = fR H1 a0 (K.1.2 10 45) ∧ (CG (avw K H1 a0)) ∧ (TU (avw K H1 a0) (svw K H1 a0)) ∧ (WD (avw K H1 a0)) ∧ (IM (avw K H1 a0)) ∧ TY K G H1) := by
  refine MX.of (by decide +kernel) (Nat.le_of_ble_eq_true rfl) ?_
  intro p e s m below meth c ls Q C hH hl hQ
  subst hH
  have C : CX p K s m _ meth c RX10 cX10_findsFits 7 none "findsFits" := C
  obtain ⟨hx, hb, hml, hown, hts, hKT, hr, hlocks, hnm⟩ := id C
  have hl : lv_has ls 7 [(0, .ref a0), (1, .int x1), (2, .int x2), (3, .int x3)] := hl
  have hS : va_S (AE G [112, 151, 141, 115, 152, 140, 139] s.heap.size) s.heap s.heap [] := va_S.rf
  have n_0 : (0 : Int32).toInt = 0 := rfl
  have n_1 : (1 : Int32).toInt = 1 := rfl
  have n_5 : (5 : Int32).toInt = 5 := rfl
  have n_16 : (16 : Int32).toInt = 16 := rfl
  have bfm := ty_fi (x := fm) (k := 56) efm hT ga0 rg_112 rfl
  have bsz := ty_ai (x := sz) esz hT gslq rg_113 (by omega)
  have hap : ∀ x y, x < 74 → y < 74 → x ≠ y → K.1.2 10 x ≠ K.1.2 10 y := x_apart hKT hts inX10 tyX10 tyX10_ok nmX10 rfl
  have hx2n := i_cl (x := x2) (by omega)
  have J11 : ∀ (nf : Nat) (ls5532 : Array Slot) (H5531 : Heap) (locsH5531 : List Loc) (x5534 : Int32) (x5535 : Int32) (x5536 : Int32), lv_has ls5532 7 [(0, .ref a0), (1, .int x1), (2, .int x2), (3, .int x3), (4, .int x5534), (5, .int x5535)] → TY K G H5531 → va_S (AE G [112, 151, 141, 115, 152, 140, 139] s.heap.size) s.heap H5531 locsH5531 → (1 ≤ x5534.toInt ∧ x5534.toInt ≤ 5) → (0 ≤ x5535.toInt ∧ x5535.toInt ≤ 5) → (0 ≤ x5536.toInt ∧ x5536.toInt ≤ 1024) → (x5536 = fI H5531 a0 (K.1.2 10 56)) → (slq = fR H5531 a0 (K.1.2 10 4)) → (rq = fR H5531 a0 (K.1.2 10 45)) → (sz = fI H5531 slq (x1 : Int32).toNatClampNeg) → (AB H5531 rq (x5535.toNatClampNeg) (0) (0)) → (CG (avw K H5531 a0)) → (TU (avw K H5531 a0) (svw K H5531 a0)) → (WD (avw K H5531 a0)) → (IM (avw K H5531 a0)) → (5 - x5535.toInt < (nf : Int)) → W p l e ({ frames := 6, cells := 0, slots := 0, locals := 146 } : Room) s m (([.ref a0, .int x1, .int x2, .int x3] : List Value).toArray) below meth c H5531 locsH5531 0 0 Q (F0 m 11 ls5532 []) := by
    intro nf
    induction nf with
    | zero =>
      intro ls5532 H5531 locsH5531 x5534 x5535 x5536 hl5533 hTH5531 hSH5531 bx5534 bx5535 bx5536 ex5536 cy5537_0 cy5537_1 cy5537_2 by5537_rw gy5537_CG gy5537_TU gy5537_WD gy5537_IM hm11
      exfalso
      omega
    | succ nf ih11 =>
      intro ls5532 H5531 locsH5531 x5534 x5535 x5536 hl5533 hTH5531 hSH5531 bx5534 bx5535 bx5536 ex5536 cy5537_0 cy5537_1 cy5537_2 by5537_rw gy5537_CG gy5537_TU gy5537_WD gy5537_IM hm11
      have J59 : ∀ (nf : Nat) (V : Nat) (ls5539 : Array Slot) (H5538 : Heap) (locsH5538 : List Loc) (x5541 : Int32) (x5542 : Int32), lv_has ls5539 7 [(0, .ref a0), (1, .int x1), (2, .int x2), (3, .int x3), (4, .int x5534), (5, .int x5541)] → TY K G H5538 → va_S (AE G [112, 151, 141, 115, 152, 140, 139] s.heap.size) s.heap H5538 locsH5538 → (0 ≤ x5541.toInt ∧ x5541.toInt ≤ 1) → (0 ≤ x5542.toInt ∧ x5542.toInt ≤ 1024) → (x5542 = fI H5538 a0 (K.1.2 10 56)) → (slq = fR H5538 a0 (K.1.2 10 4)) → (rq = fR H5538 a0 (K.1.2 10 45)) → (sz = fI H5538 slq (x1 : Int32).toNatClampNeg) → (AB H5538 rq (x5534.toNatClampNeg) (0) (x2.toInt - 1)) → (CG (avw K H5538 a0)) → (TU (avw K H5538 a0) (svw K H5538 a0)) → (WD (avw K H5538 a0)) → (IM (avw K H5538 a0)) → (((x2.toNatClampNeg ^ x5534.toNatClampNeg : Nat) : Int) - (V : Int) + x5541.toInt < (nf : Int)) → (x5541.toInt = 0 ∨ dval (fun j => fI H5538 rq j) x2.toNatClampNeg x5534.toNatClampNeg = V) → (V ≤ x2.toNatClampNeg ^ x5534.toNatClampNeg) → (x5542.toInt ≤ (V : Int) ∨ x5541.toInt = 0) → W p l e ({ frames := 6, cells := 0, slots := 0, locals := 146 } : Room) s m (([.ref a0, .int x1, .int x2, .int x3] : List Value).toArray) below meth c H5538 locsH5538 0 0 Q (F0 m 59 ls5539 []) := by
        intro nf
        induction nf with
        | zero =>
          intro V ls5539 H5538 locsH5538 x5541 x5542 hl5540 hTH5538 hSH5538 bx5541 bx5542 ex5542 cy5543_0 cy5543_1 cy5543_2 by5543_rw gy5543_CG gy5543_TU gy5543_WD gy5543_IM hm59 hV1 hV2 hV3
          exfalso
          omega
        | succ nf ih59 =>
          intro V ls5539 H5538 locsH5538 x5541 x5542 hl5540 hTH5538 hSH5538 bx5541 bx5542 ex5542 cy5543_0 cy5543_1 cy5543_2 by5543_rw gy5543_CG gy5543_TU gy5543_WD gy5543_IM hm59 hV1 hV2 hV3
          have cn0 := i_cl (x := x5534) (by omega)
          have hP : x2.toNatClampNeg ^ x5534.toNatClampNeg ≤ 1024 := pw_le (by have := i_cl (x := x2) (by omega); omega) (by have := i_cl (x := x5534) (by omega); omega)
          have J174 : ∀ (nf : Nat) (ls5545 : Array Slot) (H5544 : Heap) (locsH5544 : List Loc) (x5547 : Int32) (x5548 : Int32), lv_has ls5545 7 [(0, .ref a0), (1, .int x1), (4, .int x5534), (6, .int x5547)] → TY K G H5544 → va_S (AE G [112, 151, 141, 115, 152, 140, 139] s.heap.size) s.heap H5544 locsH5544 → (0 ≤ x5547.toInt ∧ x5547.toInt ≤ 5) → (0 ≤ x5548.toInt ∧ x5548.toInt ≤ 1024) → (x5548 = fI H5544 a0 (K.1.2 10 56)) → (slq = fR H5544 a0 (K.1.2 10 4)) → (rq = fR H5544 a0 (K.1.2 10 45)) → (sz = fI H5544 slq (x1 : Int32).toNatClampNeg) → (CG (avw K H5544 a0)) → (TU (avw K H5544 a0) (svw K H5544 a0)) → (WD (avw K H5544 a0)) → (IM (avw K H5544 a0)) → (5 - x5547.toInt < (nf : Int)) → W p l e ({ frames := 6, cells := 0, slots := 0, locals := 146 } : Room) s m (([.ref a0, .int x1, .int x2, .int x3] : List Value).toArray) below meth c H5544 locsH5544 0 0 Q (F0 m 174 ls5545 []) := by
            intro nf
            induction nf with
            | zero =>
              intro ls5545 H5544 locsH5544 x5547 x5548 hl5546 hTH5544 hSH5544 bx5547 bx5548 ex5548 cy5549_0 cy5549_1 cy5549_2 gy5549_CG gy5549_TU gy5549_WD gy5549_IM hm174
              exfalso
              omega
            | succ nf ih174 =>
              intro ls5545 H5544 locsH5544 x5547 x5548 hl5546 hTH5544 hSH5544 bx5547 bx5548 ex5548 cy5549_0 cy5549_1 cy5549_2 gy5549_CG gy5549_TU gy5549_WD gy5549_IM hm174
              refine lv_iload hx hb dX10_findsFits_174 (lv_at hl5546 3 rfl) ?_
              refine lv_iload hx hb dX10_findsFits_176 (lv_at hl5546 2 rfl) ?_
              refine lv_icmp_ge (tgt := 206) hx hb dX10_findsFits_178 (by decide) (fun c5550 => ?_) (fun c5550 => ?_)
              · have k5551 := i_le c5550
                exact x_vret C hQ dX10_findsFits_206 hSH5544 (by decide) (by decide) (⟨x5548, rfl, ex5548, cy5549_0, cy5549_1, gy5549_CG, gy5549_TU, gy5549_WD, gy5549_IM, hTH5544⟩)
              · have k5551 := i_nle c5550
                refine lv_aload_n hx hb dX10_findsFits_181 rfl (lv_at hl5546 0 rfl) ?_
                refine x_gr C hTH5544 (ci := 10) (k := 6) rfl inX10 (by decide) wF_X10_20 ga0 rg_112 rfl dX10_findsFits_182 (fun q5552 eq5552 gq5552 => ?_)
                refine lv_bipush (v := 16) hx hb dX10_findsFits_185 (by decide) ?_
                refine lv_iload_n hx hb dX10_findsFits_187 rfl (lv_at hl5546 1 rfl) ?_
                refine lv_imul hx hb dX10_findsFits_188 ?_
                refine lv_topi (fun x5553 ex5553 => ?_)
                have tx5553 := i_mul ex5553 (by rw [n_16]; omega)
                rw [n_16] at tx5553
                refine lv_iload hx hb dX10_findsFits_189 (lv_at hl5546 3 rfl) ?_
                refine lv_iadd hx hb dX10_findsFits_191 ?_
                refine lv_topi (fun x5554 ex5554 => ?_)
                have tx5554 := i_add ex5554 (by omega)
                refine lv_aload_n hx hb dX10_findsFits_192 rfl (lv_at hl5546 0 rfl) ?_
                refine x_gr C hTH5544 (ci := 10) (k := 55) rfl inX10 (by decide) wF_X10_131 ga0 rg_112 rfl dX10_findsFits_193 (fun q5555 eq5555 gq5555 => ?_)
                refine lv_iload hx hb dX10_findsFits_196 (lv_at hl5546 3 rfl) ?_
                refine x_ai C hTH5544 gq5555 rg_151 ⟨by omega, by show _ < ((5 : Nat) : Int); omega⟩ dX10_findsFits_198 (fun x5556 ex5556 bx5556 => ?_)
                refine x_iast C hTH5544 hSH5544 gq5552 rg_115 (by omega) (by show _ < ((160 : Nat) : Int); omega) ⟨by have := i_rng x5556; omega, by have := i_rng x5556; omega⟩ (AE_in gq5552 (by decide)) dX10_findsFits_199 (fun H5557 locsH5557 hTH5557 hSH5557 wH5557 => ?_)
                have g5558 : CG (avw K H5557 a0) := CG.congr (fun k hk j => av_arr hTH5544 ga0 wH5557 gq5552 (by decide) (CG_ok 115 (by decide) k hk)) gy5549_CG
                have g5559 : TU (avw K H5557 a0) (svw K H5557 a0) := TU.congr (fun k hk j => av_arr hTH5544 ga0 wH5557 gq5552 (by decide) (TU_ok 115 (by decide) k hk)) (fun k hk => sv_arr ga0 wH5557 gq5552 (by decide)) gy5549_TU
                have g5560 : WD (avw K H5557 a0) := WD.congr (fun k hk j => av_arr hTH5544 ga0 wH5557 gq5552 (by decide) (WD_ok 115 (by decide) k hk)) gy5549_WD
                have g5561 : IM (avw K H5557 a0) := IM.congr (fun k hk j => av_arr hTH5544 ga0 wH5557 gq5552 (by decide) (IM_ok 115 (by decide) k hk)) gy5549_IM
                have m5562 := ex5548.trans (Wr.neI wH5557 (Or.inl (G_ne ga0 gq5552 (by decide)))).symm
                have m5563 := cy5549_0.trans (Wr.neR wH5557 (Or.inl (G_ne ga0 gq5552 (by decide)))).symm
                have m5564 := cy5549_1.trans (Wr.neR wH5557 (Or.inl (G_ne ga0 gq5552 (by decide)))).symm
                have m5565 := cy5549_2.trans (Wr.neI wH5557 (Or.inl (G_ne gslq gq5552 (by decide)))).symm
                have m5566 := eq5552.trans (Wr.neR wH5557 (Or.inl (G_ne ga0 gq5552 (by decide)))).symm
                have m5567 := eq5555.trans (Wr.neR wH5557 (Or.inl (G_ne ga0 gq5552 (by decide)))).symm
                have m5568 := ex5556.trans (Wr.neI wH5557 (Or.inl (G_ne gq5555 gq5552 (by decide)))).symm
                have m5569 := Wr.I wH5557
                have m5569 := m5569.symm
                obtain ⟨x5570, ex5570⟩ : ∃ y : Int32, y = x5547 + 1 := ⟨_, rfl⟩
                have tx5570 := i_add ex5570 (by omega)
                refine lv_iinc (v := x5570) (lv' := [(6, .int x5570), (0, .ref a0), (1, .int x1), (4, .int x5534)]) hx hb dX10_findsFits_200 hl5546 (k := 3) rfl (by rw [ex5570]; rfl) (by decide) rfl (fun ls5571 hl5572 => ?_)
                refine lv_goto (tgt := 174) hx hb dX10_findsFits_203 (by decide) ?_
                exact ih174 ls5571 H5557 locsH5557 (x5570) (x5548) (lv_sub hl5572 [1, 2, 3, 0] rfl) hTH5557 hSH5557 (by have := i_rng x5570; omega) (by have := i_rng x5548; omega) m5562 m5563 m5564 m5565 g5558 g5559 g5560 g5561 (by omega)
          have J67 : ∀ (nf : Nat) (ls5574 : Array Slot) (H5573 : Heap) (locsH5573 : List Loc) (x5576 : Int32) (x5577 : Int32), lv_has ls5574 7 [(0, .ref a0), (1, .int x1), (2, .int x2), (3, .int x3), (4, .int x5534), (6, .int x5576)] → TY K G H5573 → va_S (AE G [112, 151, 141, 115, 152, 140, 139] s.heap.size) s.heap H5573 locsH5573 → (0 ≤ x5576.toInt ∧ x5576.toInt ≤ 5) → (0 ≤ x5577.toInt ∧ x5577.toInt ≤ 1024) → (x5577 = fI H5573 a0 (K.1.2 10 56)) → (slq = fR H5573 a0 (K.1.2 10 4)) → (rq = fR H5573 a0 (K.1.2 10 45)) → (sz = fI H5573 slq (x1 : Int32).toNatClampNeg) → (AB H5573 rq (x5534.toNatClampNeg) (0) (x2.toInt - 1)) → (dval (fun j => fI H5573 rq j) (x2.toNatClampNeg) (x5534.toNatClampNeg) = V) → (CG (avw K H5573 a0)) → (TU (avw K H5573 a0) (svw K H5573 a0)) → (WD (avw K H5573 a0)) → (IM (avw K H5573 a0)) → (5 - x5576.toInt < (nf : Int)) → (x5577.toInt ≤ (V : Int) ∧ V ≤ 1023 ∧ 1 ≤ x5541.toInt) → W p l e ({ frames := 6, cells := 0, slots := 0, locals := 146 } : Room) s m (([.ref a0, .int x1, .int x2, .int x3] : List Value).toArray) below meth c H5573 locsH5573 0 0 Q (F0 m 67 ls5574 []) := by
            intro nf
            induction nf with
            | zero =>
              intro ls5574 H5573 locsH5573 x5576 x5577 hl5575 hTH5573 hSH5573 bx5576 bx5577 ex5577 cy5578_0 cy5578_1 cy5578_2 by5578_rw by5578_dv gy5578_CG gy5578_TU gy5578_WD gy5578_IM hm67 iv67
              exfalso
              omega
            | succ nf ih67 =>
              intro ls5574 H5573 locsH5573 x5576 x5577 hl5575 hTH5573 hSH5573 bx5576 bx5577 ex5577 cy5578_0 cy5578_1 cy5578_2 by5578_rw by5578_dv gy5578_CG gy5578_TU gy5578_WD gy5578_IM hm67 iv67
              have J159 : ∀ (ls5580 : Array Slot) (H5579 : Heap) (locsH5579 : List Loc) (x5582 : Int32), lv_has ls5580 7 [(0, .ref a0), (1, .int x1), (2, .int x2), (3, .int x3), (4, .int x5534)] → TY K G H5579 → va_S (AE G [112, 151, 141, 115, 152, 140, 139] s.heap.size) s.heap H5579 locsH5579 → (0 ≤ x5582.toInt ∧ x5582.toInt ≤ 1024) → (x5582 = fI H5579 a0 (K.1.2 10 56)) → (slq = fR H5579 a0 (K.1.2 10 4)) → (rq = fR H5579 a0 (K.1.2 10 45)) → (sz = fI H5579 slq (x1 : Int32).toNatClampNeg) → (AB H5579 rq (x5534.toNatClampNeg) (0) (x2.toInt - 1)) → (dval (fun j => fI H5579 rq j) (x2.toNatClampNeg) (x5534.toNatClampNeg) = V) → (CG (avw K H5579 a0)) → (TU (avw K H5579 a0) (svw K H5579 a0)) → (WD (avw K H5579 a0)) → (IM (avw K H5579 a0)) → (x5582.toInt ≤ (V : Int) + 1) → W p l e ({ frames := 6, cells := 0, slots := 0, locals := 146 } : Room) s m (([.ref a0, .int x1, .int x2, .int x3] : List Value).toArray) below meth c H5579 locsH5579 0 0 Q (F0 m 159 ls5580 []) := by
                intro ls5580 H5579 locsH5579 x5582 hl5581 hTH5579 hSH5579 bx5582 ex5582 cy5583_0 cy5583_1 cy5583_2 by5583_rw by5583_dv gy5583_CG gy5583_TU gy5583_WD gy5583_IM iv159
                refine lv_aload_n hx hb dX10_findsFits_159 rfl (lv_at hl5581 0 rfl) ?_
                refine lv_iload hx hb dX10_findsFits_160 (lv_at hl5581 4 rfl) ?_
                refine lv_iload_n hx hb dX10_findsFits_162 rfl (lv_at hl5581 2 rfl) ?_
                refine x_V (As := [.int x5534, .int x2]) (rest := []) C (a_X10_goesOn l K G H5579 (x5534) (x2) hTH5579 ga0 (by omega) (by omega) grq cy5583_1 (AB.weak by5583_rw (by omega) (by omega) (by omega))) yo_X10_goesOn wM_X10_368 ⟨⟨by decide, by decide⟩, by decide, by decide⟩ (x_rv C hTH5579 (ci := 10) rfl ga0 rg_112) rfl hl5581.1 rfl (Nat.le_of_ble_eq_true rfl) dX10_findsFits_163 hSH5579 (AE_sub (fun _ _ => rfl) (by decide) hSH5579.1) (fun vH5584 H5584 locsH5584 pH5584 zH5584 kH5584 hSH5584 => ?_)
                obtain ⟨x5585, hvH5584, bx5585, b5586, m5587, hTH5584⟩ := pH5584
                subst hvH5584
                have g5588 : CG (avw K H5584 a0) := CG.congr (fun k hk j => av_eff hTH5579 kH5584 ga0 (by decide) (CG_eff [141] (by decide) k hk)) gy5583_CG
                have g5589 : TU (avw K H5584 a0) (svw K H5584 a0) := TU.congr (fun k hk j => av_eff hTH5579 kH5584 ga0 (by decide) (TU_eff [141] (by decide) k hk)) (fun k hk => sv_eff hTH5579 kH5584 ga0 (by decide)) gy5583_TU
                have g5590 : WD (avw K H5584 a0) := WD.congr (fun k hk j => av_eff hTH5579 kH5584 ga0 (by decide) (WD_eff [141] (by decide) k hk)) gy5583_WD
                have g5591 : IM (avw K H5584 a0) := IM.congr (fun k hk j => av_eff hTH5579 kH5584 ga0 (by decide) (IM_eff [141] (by decide) k hk)) gy5583_IM
                have m5592 := (ex5582).trans (fI_kept (x_lt hTH5579 kH5584 ga0 (by decide))).symm
                have m5593 := (cy5583_0).trans (fR_kept (x_lt hTH5579 kH5584 ga0 (by decide))).symm
                have m5594 := (cy5583_1).trans (fR_kept (x_lt hTH5579 kH5584 ga0 (by decide))).symm
                have m5595 := (cy5583_2).trans (fI_kept (x_lt hTH5579 kH5584 gslq (by decide))).symm
                refine W.eq (g2 := F0 m 166 ls5580 [.int x5585]) rfl ?_
                refine lv_istore (lv' := [(5, .int x5585), (0, .ref a0), (1, .int x1), (2, .int x2), (3, .int x3), (4, .int x5534)]) hx hb dX10_findsFits_166 hl5581 (by decide) rfl (fun ls5596 hl5597 => ?_)
                refine lv_goto (tgt := 59) hx hb dX10_findsFits_168 (by decide) ?_
                have cl_x5534 := i_cl (x := x5534) (by omega)
                have cg := i_cl (x := x5585) (by omega)
                have hlt := dval_lt (m := x2.toNatClampNeg) b5586 (by omega)
                have hgo := m5587
                have hdv := by5583_dv
                exact ih59 (V + x5585.toNatClampNeg) ls5596 H5584 locsH5584 (x5585) (x5582) (lv_sub hl5597 [1, 2, 3, 4, 5, 0] rfl) hTH5584 hSH5584 (by have := i_rng x5585; omega) (by have := i_rng x5582; omega) m5592 m5593 m5594 m5595 (AB.weak b5586 (by omega) (by omega) (by omega)) g5588 g5589 g5590 g5591 (by omega) (by omega) (by omega) (by omega)
              have J113 : ∀ (nf : Nat) (ls5599 : Array Slot) (H5598 : Heap) (locsH5598 : List Loc) (x5601 : Int32) (x5602 : Int32), lv_has ls5599 7 [(0, .ref a0), (1, .int x1), (2, .int x2), (3, .int x3), (4, .int x5534), (6, .int x5601)] → TY K G H5598 → va_S (AE G [112, 151, 141, 115, 152, 140, 139] s.heap.size) s.heap H5598 locsH5598 → (0 ≤ x5601.toInt ∧ x5601.toInt ≤ 5) → (0 ≤ x5602.toInt ∧ x5602.toInt ≤ 1024) → (x5602 = fI H5598 a0 (K.1.2 10 56)) → (slq = fR H5598 a0 (K.1.2 10 4)) → (rq = fR H5598 a0 (K.1.2 10 45)) → (sz = fI H5598 slq (x1 : Int32).toNatClampNeg) → (AB H5598 rq (x5534.toNatClampNeg) (0) (x2.toInt - 1)) → (dval (fun j => fI H5598 rq j) (x2.toNatClampNeg) (x5534.toNatClampNeg) = V) → (CG (avw K H5598 a0)) → (TU (avw K H5598 a0) (svw K H5598 a0)) → (WD (avw K H5598 a0)) → (IM (avw K H5598 a0)) → (5 - x5601.toInt < (nf : Int)) → (x5602.toInt ≤ (V : Int) ∧ V ≤ 1023) → W p l e ({ frames := 6, cells := 0, slots := 0, locals := 146 } : Room) s m (([.ref a0, .int x1, .int x2, .int x3] : List Value).toArray) below meth c H5598 locsH5598 0 0 Q (F0 m 113 ls5599 []) := by
                intro nf
                induction nf with
                | zero =>
                  intro ls5599 H5598 locsH5598 x5601 x5602 hl5600 hTH5598 hSH5598 bx5601 bx5602 ex5602 cy5603_0 cy5603_1 cy5603_2 by5603_rw by5603_dv gy5603_CG gy5603_TU gy5603_WD gy5603_IM hm113 iv113
                  exfalso
                  omega
                | succ nf ih113 =>
                  intro ls5599 H5598 locsH5598 x5601 x5602 hl5600 hTH5598 hSH5598 bx5601 bx5602 ex5602 cy5603_0 cy5603_1 cy5603_2 by5603_rw by5603_dv gy5603_CG gy5603_TU gy5603_WD gy5603_IM hm113 iv113
                  refine lv_iload hx hb dX10_findsFits_113 (lv_at hl5600 5 rfl) ?_
                  refine lv_iload hx hb dX10_findsFits_115 (lv_at hl5600 4 rfl) ?_
                  refine lv_icmp_ge (tgt := 149) hx hb dX10_findsFits_117 (by decide) (fun c5604 => ?_) (fun c5604 => ?_)
                  · have k5605 := i_le c5604
                    refine lv_aload_n hx hb dX10_findsFits_149 rfl (lv_at hl5600 0 rfl) ?_
                    refine lv_aload_n hx hb dX10_findsFits_150 rfl (lv_at hl5600 0 rfl) ?_
                    refine x_gi C hTH5598 (ci := 10) (k := 56) rfl inX10 (by decide) wF_X10_378 ga0 rg_112 rfl dX10_findsFits_151 (fun x5606 ex5606 bx5606 => ?_)
                    have ux5606 : x5602 = x5606 := (ex5602).trans ex5606.symm
                    subst ux5606
                    refine lv_iconst (v := 1) hx hb dX10_findsFits_154 (by decide) ?_
                    refine lv_iadd hx hb dX10_findsFits_155 ?_
                    refine lv_topi (fun x5607 ex5607 => ?_)
                    have tx5607 := i_add ex5607 (by omega)
                    have fz5609 : 0 ≤ x5607.toInt ∧ x5607.toInt ≤ 1024 := by have := i_rng x5607; omega
                    refine x_put C hTH5598 hSH5598 (ci := 10) (k := 56) (v := .int x5607) (ty0 := tyX10) rfl inX10 tyX10_ok nmX10 (by decide) rfl wF_X10_378 ga0 rg_112 rfl rfl (okI (by have := i_rng x5607; omega) (by have := i_rng x5607; omega)) rfl rfl (AE_in ga0 (by decide)) dX10_findsFits_156 (fun H5608 locsH5608 hTH5608 hSH5608 wH5608 => ?_)
                    have g5610 : CG (avw K H5608 a0) := CG.congr (fun k hk j => av_fld hTH5598 ga0 hap wH5608 (by decide) (CG_ok 112 (by decide) k hk) (CG_ne 56 (by decide) k hk)) gy5603_CG
                    have g5611 : TU (avw K H5608 a0) (svw K H5608 a0) := TU.congr (fun k hk j => av_fld hTH5598 ga0 hap wH5608 (by decide) (TU_ok 112 (by decide) k hk) (TU_ne 56 (by decide) k hk)) (fun k hk => sv_fld hap wH5608 (by decide) (TU_slt k hk) (TU_sne 56 (by decide) k hk)) gy5603_TU
                    have g5612 : WD (avw K H5608 a0) := WD.congr (fun k hk j => av_fld hTH5598 ga0 hap wH5608 (by decide) (WD_ok 112 (by decide) k hk) (WD_ne 56 (by decide) k hk)) gy5603_WD
                    have g5613 : IM (avw K H5608 a0) := IM.congr (fun k hk j => av_fld hTH5598 ga0 hap wH5608 (by decide) (IM_ok 112 (by decide) k hk) (IM_ne 56 (by decide) k hk)) gy5603_IM
                    have b5614 : AB H5608 rq (x5534.toNatClampNeg) (0) (x2.toInt - 1) := AB.kept (fun j => Wr.neI wH5608 (Or.inl (G_ne grq ga0 (by decide)))) by5603_rw
                    have b5615 : dval (fun j => fI H5608 rq j) (x2.toNatClampNeg) (x5534.toNatClampNeg) = V := (dval_congr (fun j => Wr.neI wH5608 (Or.inl (G_ne grq ga0 (by decide))))).trans by5603_dv
                    have m5617 := cy5603_0.trans (Wr.neR wH5608 (Or.inr (x_apart hKT hts inX10 tyX10 tyX10_ok nmX10 rfl 4 56 (by decide) (by decide) (by decide)))).symm
                    have m5618 := cy5603_1.trans (Wr.neR wH5608 (Or.inr (x_apart hKT hts inX10 tyX10 tyX10_ok nmX10 rfl 45 56 (by decide) (by decide) (by decide)))).symm
                    have m5619 := cy5603_2.trans (Wr.neI wH5608 (Or.inl (G_ne gslq ga0 (by decide)))).symm
                    have m5620 := Wr.I wH5608
                    have m5620 := m5620.symm
                    have cl_x5534 := i_cl (x := x5534) (by omega)
                    have cl_x2 := i_cl (x := x2) (by omega)
                    have cl_x5534 := i_cl (x := x5534) (by omega)
                    exact J159 ls5599 H5608 locsH5608 (x5607) (lv_sub hl5600 [0, 1, 2, 3, 4] rfl) hTH5608 hSH5608 (by have := i_rng x5607; omega) m5620 m5617 m5618 m5619 (AB.weak b5614 (by omega) (by omega) (by omega)) (b5615.trans (by omega)) g5610 g5611 g5612 g5613 (by omega)
                  · have k5605 := i_nle c5604
                    refine lv_aload_n hx hb dX10_findsFits_120 rfl (lv_at hl5600 0 rfl) ?_
                    refine x_gr C hTH5598 (ci := 10) (k := 57) rfl inX10 (by decide) wF_X10_134 ga0 rg_112 rfl dX10_findsFits_121 (fun q5621 eq5621 gq5621 => ?_)
                    refine lv_iconst (v := 5) hx hb dX10_findsFits_124 (by decide) ?_
                    refine lv_aload_n hx hb dX10_findsFits_125 rfl (lv_at hl5600 0 rfl) ?_
                    refine x_gi C hTH5598 (ci := 10) (k := 56) rfl inX10 (by decide) wF_X10_378 ga0 rg_112 rfl dX10_findsFits_126 (fun x5622 ex5622 bx5622 => ?_)
                    have ux5622 : x5602 = x5622 := (ex5602).trans ex5622.symm
                    subst ux5622
                    refine lv_imul hx hb dX10_findsFits_129 ?_
                    refine lv_topi (fun x5623 ex5623 => ?_)
                    have tx5623 := i_mul ex5623 (by rw [n_5]; omega)
                    rw [n_5] at tx5623
                    refine lv_iload hx hb dX10_findsFits_130 (lv_at hl5600 5 rfl) ?_
                    refine lv_iadd hx hb dX10_findsFits_132 ?_
                    refine lv_topi (fun x5624 ex5624 => ?_)
                    have tx5624 := i_add ex5624 (by omega)
                    refine lv_aload_n hx hb dX10_findsFits_133 rfl (lv_at hl5600 0 rfl) ?_
                    refine x_gr C hTH5598 (ci := 10) (k := 45) rfl inX10 (by decide) wF_X10_101 ga0 rg_112 rfl dX10_findsFits_134 (fun q5625 eq5625 gq5625 => ?_)
                    have uq5625 : rq = q5625 := (cy5603_1).trans eq5625.symm
                    subst uq5625
                    refine lv_iload hx hb dX10_findsFits_137 (lv_at hl5600 5 rfl) ?_
                    refine x_ai C hTH5598 grq rg_141 ⟨by omega, by show _ < ((5 : Nat) : Int); omega⟩ dX10_findsFits_139 (fun x5626 ex5626 bx5626 => ?_)
                    have clx5626 := i_cl (x := x5601) (by omega)
                    have abx5626 := (by5603_rw).at ex5626 (by omega)
                    refine lv_iconst (v := 1) hx hb dX10_findsFits_140 (by decide) ?_
                    refine lv_iadd hx hb dX10_findsFits_141 ?_
                    refine lv_topi (fun x5627 ex5627 => ?_)
                    have tx5627 := i_add ex5627 (by omega)
                    refine x_iast C hTH5598 hSH5598 gq5621 rg_152 (by omega) (by show _ < ((5120 : Nat) : Int); omega) ⟨by have := i_rng x5627; omega, by have := i_rng x5627; omega⟩ (AE_in gq5621 (by decide)) dX10_findsFits_142 (fun H5628 locsH5628 hTH5628 hSH5628 wH5628 => ?_)
                    have g5629 : CG (avw K H5628 a0) := CG.congr (fun k hk j => av_arr hTH5598 ga0 wH5628 gq5621 (by decide) (CG_ok 152 (by decide) k hk)) gy5603_CG
                    have g5630 : TU (avw K H5628 a0) (svw K H5628 a0) := TU.congr (fun k hk j => av_arr hTH5598 ga0 wH5628 gq5621 (by decide) (TU_ok 152 (by decide) k hk)) (fun k hk => sv_arr ga0 wH5628 gq5621 (by decide)) gy5603_TU
                    have g5631 : WD (avw K H5628 a0) := WD.congr (fun k hk j => av_arr hTH5598 ga0 wH5628 gq5621 (by decide) (WD_ok 152 (by decide) k hk)) gy5603_WD
                    have g5632 : IM (avw K H5628 a0) := IM.congr (fun k hk j => av_arr hTH5598 ga0 wH5628 gq5621 (by decide) (IM_ok 152 (by decide) k hk)) gy5603_IM
                    have b5633 : AB H5628 rq (x5534.toNatClampNeg) (0) (x2.toInt - 1) := AB.kept (fun j => Wr.neI wH5628 (Or.inl (G_ne grq gq5621 (by decide)))) by5603_rw
                    have b5634 : dval (fun j => fI H5628 rq j) (x2.toNatClampNeg) (x5534.toNatClampNeg) = V := (dval_congr (fun j => Wr.neI wH5628 (Or.inl (G_ne grq gq5621 (by decide))))).trans by5603_dv
                    have m5635 := ex5602.trans (Wr.neI wH5628 (Or.inl (G_ne ga0 gq5621 (by decide)))).symm
                    have m5636 := cy5603_0.trans (Wr.neR wH5628 (Or.inl (G_ne ga0 gq5621 (by decide)))).symm
                    have m5637 := cy5603_1.trans (Wr.neR wH5628 (Or.inl (G_ne ga0 gq5621 (by decide)))).symm
                    have m5638 := cy5603_2.trans (Wr.neI wH5628 (Or.inl (G_ne gslq gq5621 (by decide)))).symm
                    have m5639 := eq5621.trans (Wr.neR wH5628 (Or.inl (G_ne ga0 gq5621 (by decide)))).symm
                    have m5640 := ex5626.trans (Wr.neI wH5628 (Or.inl (G_ne grq gq5621 (by decide)))).symm
                    have m5641 := Wr.I wH5628
                    have m5641 := m5641.symm
                    obtain ⟨x5642, ex5642⟩ : ∃ y : Int32, y = x5601 + 1 := ⟨_, rfl⟩
                    have tx5642 := i_add ex5642 (by omega)
                    refine lv_iinc (v := x5642) (lv' := [(6, .int x5642), (0, .ref a0), (1, .int x1), (2, .int x2), (3, .int x3), (4, .int x5534)]) hx hb dX10_findsFits_143 hl5600 (k := 5) rfl (by rw [ex5642]; rfl) (by decide) rfl (fun ls5643 hl5644 => ?_)
                    refine lv_goto (tgt := 113) hx hb dX10_findsFits_146 (by decide) ?_
                    have cl_x5534 := i_cl (x := x5534) (by omega)
                    have cl_x2 := i_cl (x := x2) (by omega)
                    have cl_x5534 := i_cl (x := x5534) (by omega)
                    exact ih113 ls5643 H5628 locsH5628 (x5642) (x5602) (lv_sub hl5644 [1, 2, 3, 4, 5, 0] rfl) hTH5628 hSH5628 (by have := i_rng x5642; omega) (by have := i_rng x5602; omega) m5635 m5636 m5637 m5638 (AB.weak b5633 (by omega) (by omega) (by omega)) (b5634.trans (by omega)) g5629 g5630 g5631 g5632 (by omega) (by omega)
              refine lv_iload hx hb dX10_findsFits_67 (lv_at hl5575 5 rfl) ?_
              refine lv_iload hx hb dX10_findsFits_69 (lv_at hl5575 4 rfl) ?_
              refine lv_icmp_ge (tgt := 101) hx hb dX10_findsFits_71 (by decide) (fun c5645 => ?_) (fun c5645 => ?_)
              · have k5646 := i_le c5645
                refine lv_aload_n hx hb dX10_findsFits_101 rfl (lv_at hl5575 0 rfl) ?_
                refine lv_iload_n hx hb dX10_findsFits_102 rfl (lv_at hl5575 1 rfl) ?_
                refine lv_iload_n hx hb dX10_findsFits_103 rfl (lv_at hl5575 3 rfl) ?_
                refine x_V (As := [.int x1, .int x3]) (rest := []) C (a_X10_fitsAll l K G H5573 (x1) (x3) hTH5573 ga0 (by omega) gy5578_CG) yo_X10_fitsAll wM_X10_381 ⟨⟨by decide, by decide⟩, by decide, by decide⟩ (x_rv C hTH5573 (ci := 10) rfl ga0 rg_112) rfl hl5575.1 rfl (Nat.le_of_ble_eq_true rfl) dX10_findsFits_104 hSH5573 (AE_sub (fun _ _ => rfl) (by decide) hSH5573.1) (fun vH5647 H5647 locsH5647 pH5647 zH5647 kH5647 hSH5647 => ?_)
                obtain ⟨x5648, hvH5647, bx5648, hTH5647⟩ := pH5647
                subst hvH5647
                have b5649 : AB H5647 rq (x5534.toNatClampNeg) (0) (x2.toInt - 1) := AB.kept (fun j => fI_kept (x_lt hTH5573 kH5647 grq (by decide))) by5578_rw
                have b5650 : dval (fun j => fI H5647 rq j) (x2.toNatClampNeg) (x5534.toNatClampNeg) = V := (dval_congr (fun j => fI_kept (x_lt hTH5573 kH5647 grq (by decide)))).trans by5578_dv
                have g5651 : CG (avw K H5647 a0) := CG.congr (fun k hk j => av_eff hTH5573 kH5647 ga0 (by decide) (CG_eff [140, 139] (by decide) k hk)) gy5578_CG
                have g5652 : TU (avw K H5647 a0) (svw K H5647 a0) := TU.congr (fun k hk j => av_eff hTH5573 kH5647 ga0 (by decide) (TU_eff [140, 139] (by decide) k hk)) (fun k hk => sv_eff hTH5573 kH5647 ga0 (by decide)) gy5578_TU
                have g5653 : WD (avw K H5647 a0) := WD.congr (fun k hk j => av_eff hTH5573 kH5647 ga0 (by decide) (WD_eff [140, 139] (by decide) k hk)) gy5578_WD
                have g5654 : IM (avw K H5647 a0) := IM.congr (fun k hk j => av_eff hTH5573 kH5647 ga0 (by decide) (IM_eff [140, 139] (by decide) k hk)) gy5578_IM
                have m5655 := (ex5577).trans (fI_kept (x_lt hTH5573 kH5647 ga0 (by decide))).symm
                have m5656 := (cy5578_0).trans (fR_kept (x_lt hTH5573 kH5647 ga0 (by decide))).symm
                have m5657 := (cy5578_1).trans (fR_kept (x_lt hTH5573 kH5647 ga0 (by decide))).symm
                have m5658 := (cy5578_2).trans (fI_kept (x_lt hTH5573 kH5647 gslq (by decide))).symm
                refine W.eq (g2 := F0 m 107 ls5574 [.int x5648]) rfl ?_
                refine lv_if_eq (tgt := 159) hx hb dX10_findsFits_107 (by decide) (fun c5659 => ?_) (fun c5659 => ?_)
                · have k5660 := i_eq c5659
                  have cl_x5534 := i_cl (x := x5534) (by omega)
                  have cl_x2 := i_cl (x := x2) (by omega)
                  have cl_x5534 := i_cl (x := x5534) (by omega)
                  exact J159 ls5574 H5647 locsH5647 (x5577) (lv_sub hl5575 [0, 1, 2, 3, 4] rfl) hTH5647 hSH5647 (by have := i_rng x5577; omega) m5655 m5656 m5657 m5658 (AB.weak b5649 (by omega) (by omega) (by omega)) (b5650.trans (by omega)) g5651 g5652 g5653 g5654 (by omega)
                · have k5660 := i_ne c5659
                  refine lv_iconst (v := 0) hx hb dX10_findsFits_110 (by decide) ?_
                  refine lv_istore (lv' := [(6, .int 0), (0, .ref a0), (1, .int x1), (2, .int x2), (3, .int x3), (4, .int x5534)]) hx hb dX10_findsFits_111 hl5575 (by decide) rfl (fun ls5661 hl5662 => ?_)
                  have cl_x5534 := i_cl (x := x5534) (by omega)
                  have cl_x2 := i_cl (x := x2) (by omega)
                  have cl_x5534 := i_cl (x := x5534) (by omega)
                  exact J113 ((5 - (0 : Int32).toInt).toNat + 1) ls5661 H5647 locsH5647 (0) (x5577) (lv_sub hl5662 [1, 2, 3, 4, 5, 0] rfl) hTH5647 hSH5647 (by decide) (by have := i_rng x5577; omega) m5655 m5656 m5657 m5658 (AB.weak b5649 (by omega) (by omega) (by omega)) (b5650.trans (by omega)) g5651 g5652 g5653 g5654 (by omega) (by omega)
              · have k5646 := i_nle c5645
                refine lv_aload_n hx hb dX10_findsFits_74 rfl (lv_at hl5575 0 rfl) ?_
                refine x_gr C hTH5573 (ci := 10) (k := 6) rfl inX10 (by decide) wF_X10_20 ga0 rg_112 rfl dX10_findsFits_75 (fun q5663 eq5663 gq5663 => ?_)
                refine lv_bipush (v := 16) hx hb dX10_findsFits_78 (by decide) ?_
                refine lv_iload_n hx hb dX10_findsFits_80 rfl (lv_at hl5575 1 rfl) ?_
                refine lv_imul hx hb dX10_findsFits_81 ?_
                refine lv_topi (fun x5664 ex5664 => ?_)
                have tx5664 := i_mul ex5664 (by rw [n_16]; omega)
                rw [n_16] at tx5664
                refine lv_iload hx hb dX10_findsFits_82 (lv_at hl5575 5 rfl) ?_
                refine lv_iadd hx hb dX10_findsFits_84 ?_
                refine lv_topi (fun x5665 ex5665 => ?_)
                have tx5665 := i_add ex5665 (by omega)
                refine lv_aload_n hx hb dX10_findsFits_85 rfl (lv_at hl5575 0 rfl) ?_
                refine x_gr C hTH5573 (ci := 10) (k := 45) rfl inX10 (by decide) wF_X10_101 ga0 rg_112 rfl dX10_findsFits_86 (fun q5666 eq5666 gq5666 => ?_)
                have uq5666 : rq = q5666 := (cy5578_1).trans eq5666.symm
                subst uq5666
                refine lv_iload hx hb dX10_findsFits_89 (lv_at hl5575 5 rfl) ?_
                refine x_ai C hTH5573 grq rg_141 ⟨by omega, by show _ < ((5 : Nat) : Int); omega⟩ dX10_findsFits_91 (fun x5667 ex5667 bx5667 => ?_)
                have clx5667 := i_cl (x := x5576) (by omega)
                have abx5667 := (by5578_rw).at ex5667 (by omega)
                refine lv_iconst (v := 1) hx hb dX10_findsFits_92 (by decide) ?_
                refine lv_iadd hx hb dX10_findsFits_93 ?_
                refine lv_topi (fun x5668 ex5668 => ?_)
                have tx5668 := i_add ex5668 (by omega)
                refine x_iast C hTH5573 hSH5573 gq5663 rg_115 (by omega) (by show _ < ((160 : Nat) : Int); omega) ⟨by have := i_rng x5668; omega, by have := i_rng x5668; omega⟩ (AE_in gq5663 (by decide)) dX10_findsFits_94 (fun H5669 locsH5669 hTH5669 hSH5669 wH5669 => ?_)
                have g5670 : CG (avw K H5669 a0) := CG.congr (fun k hk j => av_arr hTH5573 ga0 wH5669 gq5663 (by decide) (CG_ok 115 (by decide) k hk)) gy5578_CG
                have g5671 : TU (avw K H5669 a0) (svw K H5669 a0) := TU.congr (fun k hk j => av_arr hTH5573 ga0 wH5669 gq5663 (by decide) (TU_ok 115 (by decide) k hk)) (fun k hk => sv_arr ga0 wH5669 gq5663 (by decide)) gy5578_TU
                have g5672 : WD (avw K H5669 a0) := WD.congr (fun k hk j => av_arr hTH5573 ga0 wH5669 gq5663 (by decide) (WD_ok 115 (by decide) k hk)) gy5578_WD
                have g5673 : IM (avw K H5669 a0) := IM.congr (fun k hk j => av_arr hTH5573 ga0 wH5669 gq5663 (by decide) (IM_ok 115 (by decide) k hk)) gy5578_IM
                have b5674 : AB H5669 rq (x5534.toNatClampNeg) (0) (x2.toInt - 1) := AB.kept (fun j => Wr.neI wH5669 (Or.inl (G_ne grq gq5663 (by decide)))) by5578_rw
                have b5675 : dval (fun j => fI H5669 rq j) (x2.toNatClampNeg) (x5534.toNatClampNeg) = V := (dval_congr (fun j => Wr.neI wH5669 (Or.inl (G_ne grq gq5663 (by decide))))).trans by5578_dv
                have m5676 := ex5577.trans (Wr.neI wH5669 (Or.inl (G_ne ga0 gq5663 (by decide)))).symm
                have m5677 := cy5578_0.trans (Wr.neR wH5669 (Or.inl (G_ne ga0 gq5663 (by decide)))).symm
                have m5678 := cy5578_1.trans (Wr.neR wH5669 (Or.inl (G_ne ga0 gq5663 (by decide)))).symm
                have m5679 := cy5578_2.trans (Wr.neI wH5669 (Or.inl (G_ne gslq gq5663 (by decide)))).symm
                have m5680 := eq5663.trans (Wr.neR wH5669 (Or.inl (G_ne ga0 gq5663 (by decide)))).symm
                have m5681 := ex5667.trans (Wr.neI wH5669 (Or.inl (G_ne grq gq5663 (by decide)))).symm
                have m5682 := Wr.I wH5669
                have m5682 := m5682.symm
                obtain ⟨x5683, ex5683⟩ : ∃ y : Int32, y = x5576 + 1 := ⟨_, rfl⟩
                have tx5683 := i_add ex5683 (by omega)
                refine lv_iinc (v := x5683) (lv' := [(6, .int x5683), (0, .ref a0), (1, .int x1), (2, .int x2), (3, .int x3), (4, .int x5534)]) hx hb dX10_findsFits_95 hl5575 (k := 5) rfl (by rw [ex5683]; rfl) (by decide) rfl (fun ls5684 hl5685 => ?_)
                refine lv_goto (tgt := 67) hx hb dX10_findsFits_98 (by decide) ?_
                have cl_x5534 := i_cl (x := x5534) (by omega)
                have cl_x2 := i_cl (x := x2) (by omega)
                have cl_x5534 := i_cl (x := x5534) (by omega)
                exact ih67 ls5684 H5669 locsH5669 (x5683) (x5577) (lv_sub hl5685 [1, 2, 3, 4, 5, 0] rfl) hTH5669 hSH5669 (by have := i_rng x5683; omega) (by have := i_rng x5577; omega) m5676 m5677 m5678 m5679 (AB.weak b5674 (by omega) (by omega) (by omega)) (b5675.trans (by omega)) g5670 g5671 g5672 g5673 (by omega) (by omega)
          refine lv_iload hx hb dX10_findsFits_59 (lv_at hl5540 5 rfl) ?_
          refine lv_if_eq (tgt := 171) hx hb dX10_findsFits_61 (by decide) (fun c5686 => ?_) (fun c5686 => ?_)
          · have k5687 := i_eq c5686
            refine lv_iconst (v := 0) hx hb dX10_findsFits_171 (by decide) ?_
            refine lv_istore (lv' := [(6, .int 0), (0, .ref a0), (1, .int x1), (2, .int x2), (3, .int x3), (4, .int x5534), (5, .int x5541)]) hx hb dX10_findsFits_172 hl5540 (by decide) rfl (fun ls5688 hl5689 => ?_)
            exact J174 ((5 - (0 : Int32).toInt).toNat + 1) ls5688 H5538 locsH5538 (0) (x5542) (lv_sub hl5689 [1, 2, 5, 0] rfl) hTH5538 hSH5538 (by decide) (by have := i_rng x5542; omega) ex5542 cy5543_0 cy5543_1 cy5543_2 gy5543_CG gy5543_TU gy5543_WD gy5543_IM (by omega)
          · have k5687 := i_ne c5686
            have hv : dval (fun j => fI H5538 rq j) x2.toNatClampNeg x5534.toNatClampNeg = V := by omega
            have cm0 := i_cl (x := x2) (by omega)
            have hVP := dval_lt (m := x2.toNatClampNeg) by5543_rw (by omega)
            refine lv_iconst (v := 0) hx hb dX10_findsFits_64 (by decide) ?_
            refine lv_istore (lv' := [(6, .int 0), (0, .ref a0), (1, .int x1), (2, .int x2), (3, .int x3), (4, .int x5534), (5, .int x5541)]) hx hb dX10_findsFits_65 hl5540 (by decide) rfl (fun ls5690 hl5691 => ?_)
            have cl_x5534 := i_cl (x := x5534) (by omega)
            have cl_x2 := i_cl (x := x2) (by omega)
            have cl_x5534 := i_cl (x := x5534) (by omega)
            exact J67 ((5 - (0 : Int32).toInt).toNat + 1) ls5690 H5538 locsH5538 (0) (x5542) (lv_sub hl5691 [1, 2, 3, 4, 5, 0] rfl) hTH5538 hSH5538 (by decide) (by have := i_rng x5542; omega) ex5542 cy5543_0 cy5543_1 cy5543_2 (AB.weak by5543_rw (by omega) (by omega) (by omega)) (hv.trans (by omega)) gy5543_CG gy5543_TU gy5543_WD gy5543_IM (by omega) (by omega)
      refine lv_iload hx hb dX10_findsFits_11 (lv_at hl5533 5 rfl) ?_
      refine lv_iload hx hb dX10_findsFits_13 (lv_at hl5533 4 rfl) ?_
      refine lv_icmp_ge (tgt := 51) hx hb dX10_findsFits_15 (by decide) (fun c5692 => ?_) (fun c5692 => ?_)
      · have k5693 := i_le c5692
        refine lv_aload_n hx hb dX10_findsFits_51 rfl (lv_at hl5533 0 rfl) ?_
        refine lv_iconst (v := 0) hx hb dX10_findsFits_52 (by decide) ?_
        refine x_put C hTH5531 hSH5531 (ci := 10) (k := 56) (v := .int 0) (ty0 := tyX10) rfl inX10 tyX10_ok nmX10 (by decide) rfl wF_X10_378 ga0 rg_112 rfl rfl (okI (by have := i_rng (0 : Int32); omega) (by have := i_rng (0 : Int32); omega)) rfl rfl (AE_in ga0 (by decide)) dX10_findsFits_53 (fun H5694 locsH5694 hTH5694 hSH5694 wH5694 => ?_)
        have g5695 : CG (avw K H5694 a0) := CG.congr (fun k hk j => av_fld hTH5531 ga0 hap wH5694 (by decide) (CG_ok 112 (by decide) k hk) (CG_ne 56 (by decide) k hk)) gy5537_CG
        have g5696 : TU (avw K H5694 a0) (svw K H5694 a0) := TU.congr (fun k hk j => av_fld hTH5531 ga0 hap wH5694 (by decide) (TU_ok 112 (by decide) k hk) (TU_ne 56 (by decide) k hk)) (fun k hk => sv_fld hap wH5694 (by decide) (TU_slt k hk) (TU_sne 56 (by decide) k hk)) gy5537_TU
        have g5697 : WD (avw K H5694 a0) := WD.congr (fun k hk j => av_fld hTH5531 ga0 hap wH5694 (by decide) (WD_ok 112 (by decide) k hk) (WD_ne 56 (by decide) k hk)) gy5537_WD
        have g5698 : IM (avw K H5694 a0) := IM.congr (fun k hk j => av_fld hTH5531 ga0 hap wH5694 (by decide) (IM_ok 112 (by decide) k hk) (IM_ne 56 (by decide) k hk)) gy5537_IM
        have b5699 : AB H5694 rq (x5535.toNatClampNeg) (0) (0) := AB.kept (fun j => Wr.neI wH5694 (Or.inl (G_ne grq ga0 (by decide)))) by5537_rw
        have m5701 := cy5537_0.trans (Wr.neR wH5694 (Or.inr (x_apart hKT hts inX10 tyX10 tyX10_ok nmX10 rfl 4 56 (by decide) (by decide) (by decide)))).symm
        have m5702 := cy5537_1.trans (Wr.neR wH5694 (Or.inr (x_apart hKT hts inX10 tyX10 tyX10_ok nmX10 rfl 45 56 (by decide) (by decide) (by decide)))).symm
        have m5703 := cy5537_2.trans (Wr.neI wH5694 (Or.inl (G_ne gslq ga0 (by decide)))).symm
        have m5704 := Wr.I wH5694
        refine lv_iconst (v := 1) hx hb dX10_findsFits_56 (by decide) ?_
        refine lv_istore (lv' := [(5, .int 1), (0, .ref a0), (1, .int x1), (2, .int x2), (3, .int x3), (4, .int x5534)]) hx hb dX10_findsFits_57 hl5533 (by decide) rfl (fun ls5705 hl5706 => ?_)
        have cl_x5534 := i_cl (x := x5534) (by omega)
        have cl_x5535 := i_cl (x := x5535) (by omega)
        have cl0_x5534 := i_cl (x := x5534) (by omega)
        have cl0_x5535 := i_cl (x := x5535) (by omega)
        exact J59 ((((x2.toNatClampNeg ^ x5534.toNatClampNeg : Nat) : Int) - ((0 : Nat) : Int) + (1 : Int32).toInt).toNat + 1) (0 : Nat) ls5705 H5694 locsH5694 (1) (0) (lv_sub hl5706 [1, 2, 3, 4, 5, 0] rfl) hTH5694 hSH5694 (by decide) (by decide) (m5704).symm m5701 m5702 m5703 (AB.weak b5699 (by omega) (by omega) (by omega)) g5695 g5696 g5697 g5698 (by omega) (Or.inr (dval_zero (AB.weak b5699 (by omega) (by omega) (by omega)))) (Nat.zero_le _) (Or.inl (by show (0 : Int32).toInt ≤ 0; decide))
      · have k5693 := i_nle c5692
        refine lv_aload_n hx hb dX10_findsFits_18 rfl (lv_at hl5533 0 rfl) ?_
        refine x_gr C hTH5531 (ci := 10) (k := 55) rfl inX10 (by decide) wF_X10_131 ga0 rg_112 rfl dX10_findsFits_19 (fun q5707 eq5707 gq5707 => ?_)
        refine lv_iload hx hb dX10_findsFits_22 (lv_at hl5533 5 rfl) ?_
        refine lv_aload_n hx hb dX10_findsFits_24 rfl (lv_at hl5533 0 rfl) ?_
        refine x_gr C hTH5531 (ci := 10) (k := 6) rfl inX10 (by decide) wF_X10_20 ga0 rg_112 rfl dX10_findsFits_25 (fun q5708 eq5708 gq5708 => ?_)
        refine lv_bipush (v := 16) hx hb dX10_findsFits_28 (by decide) ?_
        refine lv_iload_n hx hb dX10_findsFits_30 rfl (lv_at hl5533 1 rfl) ?_
        refine lv_imul hx hb dX10_findsFits_31 ?_
        refine lv_topi (fun x5709 ex5709 => ?_)
        have tx5709 := i_mul ex5709 (by rw [n_16]; omega)
        rw [n_16] at tx5709
        refine lv_iload hx hb dX10_findsFits_32 (lv_at hl5533 5 rfl) ?_
        refine lv_iadd hx hb dX10_findsFits_34 ?_
        refine lv_topi (fun x5710 ex5710 => ?_)
        have tx5710 := i_add ex5710 (by omega)
        refine x_ai C hTH5531 gq5708 rg_115 ⟨by omega, by show _ < ((160 : Nat) : Int); omega⟩ dX10_findsFits_35 (fun x5711 ex5711 bx5711 => ?_)
        refine x_iast C hTH5531 hSH5531 gq5707 rg_151 (by omega) (by show _ < ((5 : Nat) : Int); omega) ⟨by have := i_rng x5711; omega, by have := i_rng x5711; omega⟩ (AE_in gq5707 (by decide)) dX10_findsFits_36 (fun H5712 locsH5712 hTH5712 hSH5712 wH5712 => ?_)
        have g5713 : CG (avw K H5712 a0) := CG.congr (fun k hk j => av_arr hTH5531 ga0 wH5712 gq5707 (by decide) (CG_ok 151 (by decide) k hk)) gy5537_CG
        have g5714 : TU (avw K H5712 a0) (svw K H5712 a0) := TU.congr (fun k hk j => av_arr hTH5531 ga0 wH5712 gq5707 (by decide) (TU_ok 151 (by decide) k hk)) (fun k hk => sv_arr ga0 wH5712 gq5707 (by decide)) gy5537_TU
        have g5715 : WD (avw K H5712 a0) := WD.congr (fun k hk j => av_arr hTH5531 ga0 wH5712 gq5707 (by decide) (WD_ok 151 (by decide) k hk)) gy5537_WD
        have g5716 : IM (avw K H5712 a0) := IM.congr (fun k hk j => av_arr hTH5531 ga0 wH5712 gq5707 (by decide) (IM_ok 151 (by decide) k hk)) gy5537_IM
        have b5717 : AB H5712 rq (x5535.toNatClampNeg) (0) (0) := AB.kept (fun j => Wr.neI wH5712 (Or.inl (G_ne grq gq5707 (by decide)))) by5537_rw
        have m5718 := ex5536.trans (Wr.neI wH5712 (Or.inl (G_ne ga0 gq5707 (by decide)))).symm
        have m5719 := cy5537_0.trans (Wr.neR wH5712 (Or.inl (G_ne ga0 gq5707 (by decide)))).symm
        have m5720 := cy5537_1.trans (Wr.neR wH5712 (Or.inl (G_ne ga0 gq5707 (by decide)))).symm
        have m5721 := cy5537_2.trans (Wr.neI wH5712 (Or.inl (G_ne gslq gq5707 (by decide)))).symm
        have m5722 := eq5707.trans (Wr.neR wH5712 (Or.inl (G_ne ga0 gq5707 (by decide)))).symm
        have m5723 := eq5708.trans (Wr.neR wH5712 (Or.inl (G_ne ga0 gq5707 (by decide)))).symm
        have m5724 := ex5711.trans (Wr.neI wH5712 (Or.inl (G_ne gq5708 gq5707 (by decide)))).symm
        have m5725 := Wr.I wH5712
        have m5725 := m5725.symm
        refine lv_aload_n hx hb dX10_findsFits_37 rfl (lv_at hl5533 0 rfl) ?_
        refine x_gr C hTH5712 (ci := 10) (k := 45) rfl inX10 (by decide) wF_X10_101 ga0 rg_112 rfl dX10_findsFits_38 (fun q5726 eq5726 gq5726 => ?_)
        have uq5726 : rq = q5726 := (m5720).trans eq5726.symm
        subst uq5726
        refine lv_iload hx hb dX10_findsFits_41 (lv_at hl5533 5 rfl) ?_
        refine lv_iconst (v := 0) hx hb dX10_findsFits_43 (by decide) ?_
        refine x_iast C hTH5712 hSH5712 grq rg_141 (by omega) (by show _ < ((5 : Nat) : Int); omega) (by decide) (AE_in grq (by decide)) dX10_findsFits_44 (fun H5727 locsH5727 hTH5727 hSH5727 wH5727 => ?_)
        have g5728 : CG (avw K H5727 a0) := CG.congr (fun k hk j => av_arr hTH5712 ga0 wH5727 grq (by decide) (CG_ok 141 (by decide) k hk)) g5713
        have g5729 : TU (avw K H5727 a0) (svw K H5727 a0) := TU.congr (fun k hk j => av_arr hTH5712 ga0 wH5727 grq (by decide) (TU_ok 141 (by decide) k hk)) (fun k hk => sv_arr ga0 wH5727 grq (by decide)) g5714
        have g5730 : WD (avw K H5727 a0) := WD.congr (fun k hk j => av_arr hTH5712 ga0 wH5727 grq (by decide) (WD_ok 141 (by decide) k hk)) g5715
        have g5731 : IM (avw K H5727 a0) := IM.congr (fun k hk j => av_arr hTH5712 ga0 wH5727 grq (by decide) (IM_ok 141 (by decide) k hk)) g5716
        have cjH5727 := i_cl (x := x5535) (by omega)
        have b5732 : AB H5727 rq (x5535.toNatClampNeg + 1) (0) (0) := (AB.ext wH5727 (by decide) b5717 (by omega) rfl)
        have m5733 := m5718.trans (Wr.neI wH5727 (Or.inl (G_ne ga0 grq (by decide)))).symm
        have m5734 := m5719.trans (Wr.neR wH5727 (Or.inl (G_ne ga0 grq (by decide)))).symm
        have m5735 := m5720.trans (Wr.neR wH5727 (Or.inl (G_ne ga0 grq (by decide)))).symm
        have m5736 := m5721.trans (Wr.neI wH5727 (Or.inl (G_ne gslq grq (by decide)))).symm
        have m5737 := m5722.trans (Wr.neR wH5727 (Or.inl (G_ne ga0 grq (by decide)))).symm
        have m5738 := m5723.trans (Wr.neR wH5727 (Or.inl (G_ne ga0 grq (by decide)))).symm
        have m5739 := m5724.trans (Wr.neI wH5727 (Or.inl (G_ne gq5708 grq (by decide)))).symm
        have m5740 := m5725.trans (Wr.neI wH5727 (Or.inl (G_ne gq5707 grq (by decide)))).symm
        have m5741 := Wr.I wH5727
        obtain ⟨x5742, ex5742⟩ : ∃ y : Int32, y = x5535 + 1 := ⟨_, rfl⟩
        have tx5742 := i_add ex5742 (by omega)
        refine lv_iinc (v := x5742) (lv' := [(5, .int x5742), (0, .ref a0), (1, .int x1), (2, .int x2), (3, .int x3), (4, .int x5534)]) hx hb dX10_findsFits_45 hl5533 (k := 5) rfl (by rw [ex5742]; rfl) (by decide) rfl (fun ls5743 hl5744 => ?_)
        refine lv_goto (tgt := 11) hx hb dX10_findsFits_48 (by decide) ?_
        have cl_x5535 := i_cl (x := x5535) (by omega)
        have cl_x5742 := i_cl (x := x5742) (by omega)
        exact ih11 ls5743 H5727 locsH5727 (x5534) (x5742) (x5536) (lv_sub hl5744 [1, 2, 3, 4, 5, 0] rfl) hTH5727 hSH5727 (by have := i_rng x5534; omega) (by have := i_rng x5742; omega) (by have := i_rng x5536; omega) m5733 m5734 m5735 m5736 (AB.weak b5732 (by omega) (by omega) (by omega)) g5728 g5729 g5730 g5731 (by omega)
  refine lv_aload_n hx hb dX10_findsFits_0 rfl (lv_at hl 0 rfl) ?_
  refine x_gr C hT (ci := 10) (k := 4) rfl inX10 (by decide) wF_X10_13 ga0 rg_112 rfl dX10_findsFits_1 (fun q5745 eq5745 gq5745 => ?_)
  have uq5745 : slq = q5745 := (eslq).trans eq5745.symm
  subst uq5745
  refine lv_iload_n hx hb dX10_findsFits_4 rfl (lv_at hl 1 rfl) ?_
  refine x_ai C hT gslq rg_113 ⟨by omega, by show _ < ((10 : Nat) : Int); omega⟩ dX10_findsFits_5 (fun x5746 ex5746 bx5746 => ?_)
  have ux5746 : sz = x5746 := (esz).trans ex5746.symm
  subst ux5746
  refine lv_istore (lv' := [(4, .int sz), (0, .ref a0), (1, .int x1), (2, .int x2), (3, .int x3)]) hx hb dX10_findsFits_6 hl (by decide) rfl (fun ls5747 hl5748 => ?_)
  refine lv_iconst (v := 0) hx hb dX10_findsFits_8 (by decide) ?_
  refine lv_istore (lv' := [(5, .int 0), (4, .int sz), (0, .ref a0), (1, .int x1), (2, .int x2), (3, .int x3)]) hx hb dX10_findsFits_9 hl5748 (by decide) rfl (fun ls5749 hl5750 => ?_)
  have cl_0 := i_cl (x := (0 : Int32)) (by omega)
  exact J11 ((5 - (0 : Int32).toInt).toNat + 1) ls5749 s.heap [] (sz) (0) (fm) (lv_sub hl5750 [2, 3, 4, 5, 1, 0] rfl) hT hS (by have := i_rng sz; omega) (by decide) (by have := i_rng fm; omega) efm eslq erq esz (AB.weak (AB.nil (H := s.heap) (q := rq) (lo := 0) (hi := 0)) (by omega) (by omega) (by omega)) hg_CG hg_TU hg_WD hg_IM (by omega)

set_option maxHeartbeats 4000000 in
set_option maxRecDepth 100000 in
theorem a_X10_unlikeBy (l : Launch) (K : KE) (G : Nat → Option Nat) (H : Heap) {a0 : Nat} (x1 : Int32) (x2 : Int32) {slq : Nat} (sz : Int32) (hT : TY K G H) (ga0 : G a0 = some 112) (hx1 : 0 ≤ x1.toInt ∧ x1.toInt ≤ 9) (hx2 : 0 ≤ x2.toInt ∧ x2.toInt ≤ 15) (gslq : G slq = some 113) (eslq : slq = fR H a0 (K.1.2 10 4)) (esz : sz = fI H slq (x1 : Int32).toNatClampNeg) (hg_CG : CG (avw K H a0)) (hp0 : sz.toInt ≤ 5) : MX l K yX10_unlikeBy cX10_unlikeBy 8 (some .int) 6 145 0 0 [.ref a0, .int x1, .int x2] H (AE G [114, 115, 153, 140, 139] H.size) (fun v H1 => ∃ (r : Int32), v = some (.int r) ∧ TY K G H1) := by
  refine MX.of (by decide +kernel) (Nat.le_of_ble_eq_true rfl) ?_
  intro p e s m below meth c ls Q C hH hl hQ
  subst hH
  have C : CX p K s m _ meth c RX10 cX10_unlikeBy 8 (some .int) "unlikeBy" := C
  obtain ⟨hx, hb, hml, hown, hts, hKT, hr, hlocks, hnm⟩ := id C
  have hl : lv_has ls 8 [(0, .ref a0), (1, .int x1), (2, .int x2)] := hl
  have hS : va_S (AE G [114, 115, 153, 140, 139] s.heap.size) s.heap s.heap [] := va_S.rf
  have n_0 : (0 : Int32).toInt = 0 := rfl
  have n_1 : (1 : Int32).toInt = 1 := rfl
  have n_5 : (5 : Int32).toInt = 5 := rfl
  have n_16 : (16 : Int32).toInt = 16 := rfl
  have bsz := ty_ai (x := sz) esz hT gslq rg_113 (by omega)
  have hap : ∀ x y, x < 74 → y < 74 → x ≠ y → K.1.2 10 x ≠ K.1.2 10 y := x_apart hKT hts inX10 tyX10 tyX10_ok nmX10 rfl
  have J37 : ∀ (nf : Nat) (ls1499 : Array Slot) (H1498 : Heap) (locsH1498 : List Loc) (x1501 : Int32) (x1502 : Int32) (x1503 : Int32), lv_has ls1499 8 [(0, .ref a0), (1, .int x1), (2, .int x2), (3, .int x1501), (4, .int x1502), (5, .int x1503)] → TY K G H1498 → va_S (AE G [114, 115, 153, 140, 139] s.heap.size) s.heap H1498 locsH1498 → (0 ≤ x1501.toInt ∧ x1501.toInt ≤ 1024) → (0 ≤ x1502.toInt ∧ x1502.toInt ≤ 5) → (0 ≤ x1503.toInt ∧ x1503.toInt ≤ 1024) → (slq = fR H1498 a0 (K.1.2 10 4)) → (sz = fI H1498 slq (x1 : Int32).toNatClampNeg) → (CG (avw K H1498 a0)) → (1024 - x1503.toInt < (nf : Int)) → (x1501.toInt ≤ x1503.toInt ∧ 0 ≤ x1501.toInt) → W p l e ({ frames := 6, cells := 0, slots := 0, locals := 145 } : Room) s m (([.ref a0, .int x1, .int x2] : List Value).toArray) below meth c H1498 locsH1498 0 0 Q (F0 m 37 ls1499 []) := by
    intro nf
    induction nf with
    | zero =>
      intro ls1499 H1498 locsH1498 x1501 x1502 x1503 hl1500 hTH1498 hSH1498 bx1501 bx1502 bx1503 cy1504_0 cy1504_1 gy1504_CG hm37 iv37
      exfalso
      omega
    | succ nf ih37 =>
      intro ls1499 H1498 locsH1498 x1501 x1502 x1503 hl1500 hTH1498 hSH1498 bx1501 bx1502 bx1503 cy1504_0 cy1504_1 gy1504_CG hm37 iv37
      have J176 : ∀ (nf : Nat) (ls1506 : Array Slot) (H1505 : Heap) (locsH1505 : List Loc) (x1508 : Int32), lv_has ls1506 8 [(0, .ref a0), (1, .int x1), (3, .int x1501), (4, .int x1502), (5, .int x1508)] → TY K G H1505 → va_S (AE G [114, 115, 153, 140, 139] s.heap.size) s.heap H1505 locsH1505 → (0 ≤ x1508.toInt ∧ x1508.toInt ≤ 5) → (slq = fR H1505 a0 (K.1.2 10 4)) → (sz = fI H1505 slq (x1 : Int32).toNatClampNeg) → (CG (avw K H1505 a0)) → (5 - x1508.toInt < (nf : Int)) → W p l e ({ frames := 6, cells := 0, slots := 0, locals := 145 } : Room) s m (([.ref a0, .int x1, .int x2] : List Value).toArray) below meth c H1505 locsH1505 0 0 Q (F0 m 176 ls1506 []) := by
        intro nf
        induction nf with
        | zero =>
          intro ls1506 H1505 locsH1505 x1508 hl1507 hTH1505 hSH1505 bx1508 cy1509_0 cy1509_1 gy1509_CG hm176
          exfalso
          omega
        | succ nf ih176 =>
          intro ls1506 H1505 locsH1505 x1508 hl1507 hTH1505 hSH1505 bx1508 cy1509_0 cy1509_1 gy1509_CG hm176
          refine lv_iload hx hb dX10_unlikeBy_176 (lv_at hl1507 4 rfl) ?_
          refine lv_iload hx hb dX10_unlikeBy_178 (lv_at hl1507 3 rfl) ?_
          refine lv_icmp_ge (tgt := 208) hx hb dX10_unlikeBy_180 (by decide) (fun c1510 => ?_) (fun c1510 => ?_)
          · have k1511 := i_le c1510
            refine lv_iload_n hx hb dX10_unlikeBy_208 rfl (lv_at hl1507 2 rfl) ?_
            exact x_iret C hQ dX10_unlikeBy_209 hSH1505 (by decide) (by decide) (⟨x1501, rfl, hTH1505⟩)
          · have k1511 := i_nle c1510
            refine lv_aload_n hx hb dX10_unlikeBy_183 rfl (lv_at hl1507 0 rfl) ?_
            refine x_gr C hTH1505 (ci := 10) (k := 6) rfl inX10 (by decide) wF_X10_20 ga0 rg_112 rfl dX10_unlikeBy_184 (fun q1512 eq1512 gq1512 => ?_)
            refine lv_bipush (v := 16) hx hb dX10_unlikeBy_187 (by decide) ?_
            refine lv_iload_n hx hb dX10_unlikeBy_189 rfl (lv_at hl1507 1 rfl) ?_
            refine lv_imul hx hb dX10_unlikeBy_190 ?_
            refine lv_topi (fun x1513 ex1513 => ?_)
            have tx1513 := i_mul ex1513 (by rw [n_16]; omega)
            rw [n_16] at tx1513
            refine lv_iload hx hb dX10_unlikeBy_191 (lv_at hl1507 4 rfl) ?_
            refine lv_iadd hx hb dX10_unlikeBy_193 ?_
            refine lv_topi (fun x1514 ex1514 => ?_)
            have tx1514 := i_add ex1514 (by omega)
            refine lv_aload_n hx hb dX10_unlikeBy_194 rfl (lv_at hl1507 0 rfl) ?_
            refine x_gr C hTH1505 (ci := 10) (k := 55) rfl inX10 (by decide) wF_X10_131 ga0 rg_112 rfl dX10_unlikeBy_195 (fun q1515 eq1515 gq1515 => ?_)
            refine lv_iload hx hb dX10_unlikeBy_198 (lv_at hl1507 4 rfl) ?_
            refine x_ai C hTH1505 gq1515 rg_151 ⟨by omega, by show _ < ((5 : Nat) : Int); omega⟩ dX10_unlikeBy_200 (fun x1516 ex1516 bx1516 => ?_)
            refine x_iast C hTH1505 hSH1505 gq1512 rg_115 (by omega) (by show _ < ((160 : Nat) : Int); omega) ⟨by have := i_rng x1516; omega, by have := i_rng x1516; omega⟩ (AE_in gq1512 (by decide)) dX10_unlikeBy_201 (fun H1517 locsH1517 hTH1517 hSH1517 wH1517 => ?_)
            have g1518 : CG (avw K H1517 a0) := CG.congr (fun k hk j => av_arr hTH1505 ga0 wH1517 gq1512 (by decide) (CG_ok 115 (by decide) k hk)) gy1509_CG
            have m1519 := cy1509_0.trans (Wr.neR wH1517 (Or.inl (G_ne ga0 gq1512 (by decide)))).symm
            have m1520 := cy1509_1.trans (Wr.neI wH1517 (Or.inl (G_ne gslq gq1512 (by decide)))).symm
            have m1521 := eq1512.trans (Wr.neR wH1517 (Or.inl (G_ne ga0 gq1512 (by decide)))).symm
            have m1522 := eq1515.trans (Wr.neR wH1517 (Or.inl (G_ne ga0 gq1512 (by decide)))).symm
            have m1523 := ex1516.trans (Wr.neI wH1517 (Or.inl (G_ne gq1515 gq1512 (by decide)))).symm
            have m1524 := Wr.I wH1517
            have m1524 := m1524.symm
            obtain ⟨x1525, ex1525⟩ : ∃ y : Int32, y = x1508 + 1 := ⟨_, rfl⟩
            have tx1525 := i_add ex1525 (by omega)
            refine lv_iinc (v := x1525) (lv' := [(5, .int x1525), (0, .ref a0), (1, .int x1), (3, .int x1501), (4, .int x1502)]) hx hb dX10_unlikeBy_202 hl1507 (k := 4) rfl (by rw [ex1525]; rfl) (by decide) rfl (fun ls1526 hl1527 => ?_)
            refine lv_goto (tgt := 176) hx hb dX10_unlikeBy_205 (by decide) ?_
            exact ih176 ls1526 H1517 locsH1517 (x1525) (lv_sub hl1527 [1, 2, 3, 4, 0] rfl) hTH1517 hSH1517 (by have := i_rng x1525; omega) m1519 m1520 g1518 (by omega)
      have J49 : ∀ (nf : Nat) (ls1529 : Array Slot) (H1528 : Heap) (locsH1528 : List Loc) (x1532 : Int32), lv_has ls1529 8 [(0, .ref a0), (1, .int x1), (2, .int x2), (3, .int x1501), (4, .int x1502), (5, .int x1503), (6, .int x1532)] → TY K G H1528 → va_S (AE G [114, 115, 153, 140, 139] s.heap.size) s.heap H1528 locsH1528 → (0 ≤ x1503.toInt ∧ x1503.toInt ≤ 1023) → (0 ≤ x1532.toInt ∧ x1532.toInt ≤ 5) → (slq = fR H1528 a0 (K.1.2 10 4)) → (sz = fI H1528 slq (x1 : Int32).toNatClampNeg) → (CG (avw K H1528 a0)) → (5 - x1532.toInt < (nf : Int)) → (x1501.toInt ≤ x1503.toInt ∧ 0 ≤ x1501.toInt ∧ x1503.toInt ≤ 1023) → W p l e ({ frames := 6, cells := 0, slots := 0, locals := 145 } : Room) s m (([.ref a0, .int x1, .int x2] : List Value).toArray) below meth c H1528 locsH1528 0 0 Q (F0 m 49 ls1529 []) := by
        intro nf
        induction nf with
        | zero =>
          intro ls1529 H1528 locsH1528 x1532 hl1530 hTH1528 hSH1528 b1531 bx1532 cy1533_0 cy1533_1 gy1533_CG hm49 iv49
          exfalso
          omega
        | succ nf ih49 =>
          intro ls1529 H1528 locsH1528 x1532 hl1530 hTH1528 hSH1528 b1531 bx1532 cy1533_0 cy1533_1 gy1533_CG hm49 iv49
          have J97 : ∀ (nf : Nat) (ls1535 : Array Slot) (H1534 : Heap) (locsH1534 : List Loc) (x1537 : Int32) (x1538 : Int32), lv_has ls1535 8 [(0, .ref a0), (1, .int x1), (2, .int x2), (3, .int x1501), (4, .int x1502), (5, .int x1503), (6, .int x1537), (7, .int x1538)] → TY K G H1534 → va_S (AE G [114, 115, 153, 140, 139] s.heap.size) s.heap H1534 locsH1534 → (0 ≤ x1538.toInt ∧ x1538.toInt ≤ 1024) → (slq = fR H1534 a0 (K.1.2 10 4)) → (sz = fI H1534 slq (x1 : Int32).toNatClampNeg) → (CG (avw K H1534 a0)) → (1024 - x1538.toInt < (nf : Int)) → (x1501.toInt ≤ x1503.toInt ∧ 0 ≤ x1501.toInt ∧ x1538.toInt ≤ x1501.toInt ∧ x1503.toInt ≤ 1023) → W p l e ({ frames := 6, cells := 0, slots := 0, locals := 145 } : Room) s m (([.ref a0, .int x1, .int x2] : List Value).toArray) below meth c H1534 locsH1534 0 0 Q (F0 m 97 ls1535 []) := by
            intro nf
            induction nf with
            | zero =>
              intro ls1535 H1534 locsH1534 x1537 x1538 hl1536 hTH1534 hSH1534 bx1538 cy1539_0 cy1539_1 gy1539_CG hm97 iv97
              have rx1537 := i_rng x1537
              exfalso
              omega
            | succ nf ih97 =>
              intro ls1535 H1534 locsH1534 x1537 x1538 hl1536 hTH1534 hSH1534 bx1538 cy1539_0 cy1539_1 gy1539_CG hm97 iv97
              have rx1537 := i_rng x1537
              have J124 : ∀ (ls1541 : Array Slot) (H1540 : Heap) (locsH1540 : List Loc) , lv_has ls1541 8 [(0, .ref a0), (1, .int x1), (2, .int x2), (3, .int x1501), (4, .int x1502), (5, .int x1503), (6, .int x1537), (7, .int x1538)] → TY K G H1540 → va_S (AE G [114, 115, 153, 140, 139] s.heap.size) s.heap H1540 locsH1540 → (slq = fR H1540 a0 (K.1.2 10 4)) → (sz = fI H1540 slq (x1 : Int32).toNatClampNeg) → (CG (avw K H1540 a0)) → (x1501.toInt ≤ x1503.toInt ∧ 0 ≤ x1501.toInt ∧ x1538.toInt ≤ x1501.toInt ∧ x1503.toInt ≤ 1023) → W p l e ({ frames := 6, cells := 0, slots := 0, locals := 145 } : Room) s m (([.ref a0, .int x1, .int x2] : List Value).toArray) below meth c H1540 locsH1540 0 0 Q (F0 m 124 ls1541 []) := by
                intro ls1541 H1540 locsH1540  hl1542 hTH1540 hSH1540 cy1543_0 cy1543_1 gy1543_CG iv124
                have J143 : ∀ (ls1545 : Array Slot) (H1544 : Heap) (locsH1544 : List Loc) (x1547 : Int32), lv_has ls1545 8 [(0, .ref a0), (1, .int x1), (2, .int x2), (3, .int x1547), (4, .int x1502), (5, .int x1503)] → TY K G H1544 → va_S (AE G [114, 115, 153, 140, 139] s.heap.size) s.heap H1544 locsH1544 → (0 ≤ x1547.toInt ∧ x1547.toInt ≤ 1024) → (slq = fR H1544 a0 (K.1.2 10 4)) → (sz = fI H1544 slq (x1 : Int32).toNatClampNeg) → (CG (avw K H1544 a0)) → (x1547.toInt ≤ x1503.toInt + 1 ∧ x1503.toInt ≤ 1023) → W p l e ({ frames := 6, cells := 0, slots := 0, locals := 145 } : Room) s m (([.ref a0, .int x1, .int x2] : List Value).toArray) below meth c H1544 locsH1544 0 0 Q (F0 m 143 ls1545 []) := by
                  intro ls1545 H1544 locsH1544 x1547 hl1546 hTH1544 hSH1544 bx1547 cy1548_0 cy1548_1 gy1548_CG iv143
                  obtain ⟨x1549, ex1549⟩ : ∃ y : Int32, y = x1503 + 1 := ⟨_, rfl⟩
                  have tx1549 := i_add ex1549 (by omega)
                  refine lv_iinc (v := x1549) (lv' := [(5, .int x1549), (0, .ref a0), (1, .int x1), (2, .int x2), (3, .int x1547), (4, .int x1502)]) hx hb dX10_unlikeBy_143 hl1546 (k := 5) rfl (by rw [ex1549]; rfl) (by decide) rfl (fun ls1550 hl1551 => ?_)
                  refine lv_goto (tgt := 37) hx hb dX10_unlikeBy_146 (by decide) ?_
                  exact ih37 ls1550 H1544 locsH1544 (x1547) (x1502) (x1549) (lv_sub hl1551 [1, 2, 3, 4, 5, 0] rfl) hTH1544 hSH1544 (by have := i_rng x1547; omega) (by have := i_rng x1502; omega) (by have := i_rng x1549; omega) cy1548_0 cy1548_1 gy1548_CG (by omega) (by omega)
                refine lv_aload_n hx hb dX10_unlikeBy_124 rfl (lv_at hl1542 0 rfl) ?_
                refine x_gr C hTH1540 (ci := 10) (k := 58) rfl inX10 (by decide) wF_X10_137 ga0 rg_112 rfl dX10_unlikeBy_125 (fun q1552 eq1552 gq1552 => ?_)
                refine lv_iload hx hb dX10_unlikeBy_128 (lv_at hl1542 7 rfl) ?_
                refine lv_iload hx hb dX10_unlikeBy_130 (lv_at hl1542 6 rfl) ?_
                refine x_iast C hTH1540 hSH1540 gq1552 rg_153 (by omega) (by show _ < ((1024 : Nat) : Int); omega) ⟨by have := i_rng x1537; omega, by have := i_rng x1537; omega⟩ (AE_in gq1552 (by decide)) dX10_unlikeBy_132 (fun H1553 locsH1553 hTH1553 hSH1553 wH1553 => ?_)
                have g1554 : CG (avw K H1553 a0) := CG.congr (fun k hk j => av_arr hTH1540 ga0 wH1553 gq1552 (by decide) (CG_ok 153 (by decide) k hk)) gy1543_CG
                have m1555 := cy1543_0.trans (Wr.neR wH1553 (Or.inl (G_ne ga0 gq1552 (by decide)))).symm
                have m1556 := cy1543_1.trans (Wr.neI wH1553 (Or.inl (G_ne gslq gq1552 (by decide)))).symm
                have m1557 := eq1552.trans (Wr.neR wH1553 (Or.inl (G_ne ga0 gq1552 (by decide)))).symm
                have m1558 := Wr.I wH1553
                have m1558 := m1558.symm
                refine lv_iload hx hb dX10_unlikeBy_133 (lv_at hl1542 7 rfl) ?_
                refine lv_iload_n hx hb dX10_unlikeBy_135 rfl (lv_at hl1542 3 rfl) ?_
                refine lv_icmp_ne (tgt := 143) hx hb dX10_unlikeBy_136 (by decide) (fun c1559 => ?_) (fun c1559 => ?_)
                · have k1560 := i_ne c1559
                  exact J143 ls1541 H1553 locsH1553 (x1501) (lv_sub hl1542 [0, 1, 2, 3, 4, 5] rfl) hTH1553 hSH1553 (by have := i_rng x1501; omega) m1555 m1556 g1554 (by omega)
                · have k1560 := i_eq c1559
                  refine lv_iload_n hx hb dX10_unlikeBy_139 rfl (lv_at hl1542 3 rfl) ?_
                  refine lv_iconst (v := 1) hx hb dX10_unlikeBy_140 (by decide) ?_
                  refine lv_iadd hx hb dX10_unlikeBy_141 ?_
                  refine lv_topi (fun x1561 ex1561 => ?_)
                  have tx1561 := i_add ex1561 (by omega)
                  refine lv_istore_n (lv' := [(3, .int x1561), (0, .ref a0), (1, .int x1), (2, .int x2), (4, .int x1502), (5, .int x1503), (6, .int x1537), (7, .int x1538)]) hx hb dX10_unlikeBy_142 rfl hl1542 (by decide) rfl (fun ls1562 hl1563 => ?_)
                  exact J143 ls1562 H1553 locsH1553 (x1561) (lv_sub hl1563 [1, 2, 3, 0, 4, 5] rfl) hTH1553 hSH1553 (by have := i_rng x1561; omega) m1555 m1556 g1554 (by omega)
              refine lv_iload hx hb dX10_unlikeBy_97 (lv_at hl1536 7 rfl) ?_
              refine lv_iload_n hx hb dX10_unlikeBy_99 rfl (lv_at hl1536 3 rfl) ?_
              refine lv_icmp_ge (tgt := 124) hx hb dX10_unlikeBy_100 (by decide) (fun c1564 => ?_) (fun c1564 => ?_)
              · have k1565 := i_le c1564
                exact J124 ls1535 H1534 locsH1534 (lv_sub hl1536 [0, 1, 2, 3, 4, 5, 6, 7] rfl) hTH1534 hSH1534 cy1539_0 cy1539_1 gy1539_CG (by omega)
              · have k1565 := i_nle c1564
                refine lv_aload_n hx hb dX10_unlikeBy_103 rfl (lv_at hl1536 0 rfl) ?_
                refine x_gr C hTH1534 (ci := 10) (k := 58) rfl inX10 (by decide) wF_X10_137 ga0 rg_112 rfl dX10_unlikeBy_104 (fun q1566 eq1566 gq1566 => ?_)
                refine lv_iload hx hb dX10_unlikeBy_107 (lv_at hl1536 7 rfl) ?_
                refine x_ai C hTH1534 gq1566 rg_153 ⟨by omega, by show _ < ((1024 : Nat) : Int); omega⟩ dX10_unlikeBy_109 (fun x1567 ex1567 bx1567 => ?_)
                refine lv_iload hx hb dX10_unlikeBy_110 (lv_at hl1536 6 rfl) ?_
                refine lv_icmp_eq (tgt := 124) hx hb dX10_unlikeBy_112 (by decide) (fun c1568 => ?_) (fun c1568 => ?_)
                · have k1569 := i_eq c1568
                  exact J124 ls1535 H1534 locsH1534 (lv_sub hl1536 [0, 1, 2, 3, 4, 5, 6, 7] rfl) hTH1534 hSH1534 cy1539_0 cy1539_1 gy1539_CG (by omega)
                · have k1569 := i_ne c1568
                  refine lv_iload hx hb dX10_unlikeBy_115 (lv_at hl1536 7 rfl) ?_
                  refine lv_iconst (v := 1) hx hb dX10_unlikeBy_117 (by decide) ?_
                  refine lv_iadd hx hb dX10_unlikeBy_118 ?_
                  refine lv_topi (fun x1570 ex1570 => ?_)
                  have tx1570 := i_add ex1570 (by omega)
                  refine lv_istore (lv' := [(7, .int x1570), (0, .ref a0), (1, .int x1), (2, .int x2), (3, .int x1501), (4, .int x1502), (5, .int x1503), (6, .int x1537)]) hx hb dX10_unlikeBy_119 hl1536 (by decide) rfl (fun ls1571 hl1572 => ?_)
                  refine lv_goto (tgt := 97) hx hb dX10_unlikeBy_121 (by decide) ?_
                  exact ih97 ls1571 H1534 locsH1534 (x1537) (x1570) (lv_sub hl1572 [1, 2, 3, 4, 5, 6, 7, 0] rfl) hTH1534 hSH1534 (by have := i_rng x1570; omega) cy1539_0 cy1539_1 gy1539_CG (by omega) (by omega)
          refine lv_iload hx hb dX10_unlikeBy_49 (lv_at hl1530 6 rfl) ?_
          refine lv_iload hx hb dX10_unlikeBy_51 (lv_at hl1530 4 rfl) ?_
          refine lv_icmp_ge (tgt := 86) hx hb dX10_unlikeBy_53 (by decide) (fun c1573 => ?_) (fun c1573 => ?_)
          · have k1574 := i_le c1573
            refine lv_aload_n hx hb dX10_unlikeBy_86 rfl (lv_at hl1530 0 rfl) ?_
            refine lv_iload_n hx hb dX10_unlikeBy_87 rfl (lv_at hl1530 1 rfl) ?_
            refine lv_iconst (v := 0) hx hb dX10_unlikeBy_88 (by decide) ?_
            refine x_V (As := [.int x1, .int 0]) (rest := []) C (a_X10_toneNow l K G H1528 (x1) (0) hTH1528 ga0 (by omega) gy1533_CG) yo_X10_toneNow wM_X10_335 ⟨⟨by decide, by decide⟩, by decide, by decide⟩ (x_rv C hTH1528 (ci := 10) rfl ga0 rg_112) rfl hl1530.1 rfl (Nat.le_of_ble_eq_true rfl) dX10_unlikeBy_89 hSH1528 (AE_sub (fun _ _ => rfl) (by decide) hSH1528.1) (fun vH1575 H1575 locsH1575 pH1575 zH1575 kH1575 hSH1575 => ?_)
            obtain ⟨x1576, hvH1575, hTH1575⟩ := pH1575
            subst hvH1575
            have g1577 : CG (avw K H1575 a0) := CG.congr (fun k hk j => av_eff hTH1528 kH1575 ga0 (by decide) (CG_eff [140, 139] (by decide) k hk)) gy1533_CG
            have m1578 := (cy1533_0).trans (fR_kept (x_lt hTH1528 kH1575 ga0 (by decide))).symm
            have m1579 := (cy1533_1).trans (fI_kept (x_lt hTH1528 kH1575 gslq (by decide))).symm
            refine W.eq (g2 := F0 m 92 ls1529 [.int x1576]) rfl ?_
            refine lv_istore (lv' := [(6, .int x1576), (0, .ref a0), (1, .int x1), (2, .int x2), (3, .int x1501), (4, .int x1502), (5, .int x1503)]) hx hb dX10_unlikeBy_92 hl1530 (by decide) rfl (fun ls1580 hl1581 => ?_)
            refine lv_iconst (v := 0) hx hb dX10_unlikeBy_94 (by decide) ?_
            refine lv_istore (lv' := [(7, .int 0), (6, .int x1576), (0, .ref a0), (1, .int x1), (2, .int x2), (3, .int x1501), (4, .int x1502), (5, .int x1503)]) hx hb dX10_unlikeBy_95 hl1581 (by decide) rfl (fun ls1582 hl1583 => ?_)
            exact J97 ((1024 - (0 : Int32).toInt).toNat + 1) ls1582 H1575 locsH1575 (x1576) (0) (lv_sub hl1583 [2, 3, 4, 5, 6, 7, 1, 0] rfl) hTH1575 hSH1575 (by decide) m1578 m1579 g1577 (by omega) (by omega)
          · have k1574 := i_nle c1573
            refine lv_aload_n hx hb dX10_unlikeBy_56 rfl (lv_at hl1530 0 rfl) ?_
            refine x_gr C hTH1528 (ci := 10) (k := 6) rfl inX10 (by decide) wF_X10_20 ga0 rg_112 rfl dX10_unlikeBy_57 (fun q1584 eq1584 gq1584 => ?_)
            refine lv_bipush (v := 16) hx hb dX10_unlikeBy_60 (by decide) ?_
            refine lv_iload_n hx hb dX10_unlikeBy_62 rfl (lv_at hl1530 1 rfl) ?_
            refine lv_imul hx hb dX10_unlikeBy_63 ?_
            refine lv_topi (fun x1585 ex1585 => ?_)
            have tx1585 := i_mul ex1585 (by rw [n_16]; omega)
            rw [n_16] at tx1585
            refine lv_iload hx hb dX10_unlikeBy_64 (lv_at hl1530 6 rfl) ?_
            refine lv_iadd hx hb dX10_unlikeBy_66 ?_
            refine lv_topi (fun x1586 ex1586 => ?_)
            have tx1586 := i_add ex1586 (by omega)
            refine lv_aload_n hx hb dX10_unlikeBy_67 rfl (lv_at hl1530 0 rfl) ?_
            refine x_gr C hTH1528 (ci := 10) (k := 57) rfl inX10 (by decide) wF_X10_134 ga0 rg_112 rfl dX10_unlikeBy_68 (fun q1587 eq1587 gq1587 => ?_)
            refine lv_iconst (v := 5) hx hb dX10_unlikeBy_71 (by decide) ?_
            refine lv_iload hx hb dX10_unlikeBy_72 (lv_at hl1530 5 rfl) ?_
            refine lv_imul hx hb dX10_unlikeBy_74 ?_
            refine lv_topi (fun x1588 ex1588 => ?_)
            have tx1588 := i_mul ex1588 (by rw [n_5]; omega)
            rw [n_5] at tx1588
            refine lv_iload hx hb dX10_unlikeBy_75 (lv_at hl1530 6 rfl) ?_
            refine lv_iadd hx hb dX10_unlikeBy_77 ?_
            refine lv_topi (fun x1589 ex1589 => ?_)
            have tx1589 := i_add ex1589 (by omega)
            refine x_ai C hTH1528 gq1587 rg_152 ⟨by omega, by show _ < ((5120 : Nat) : Int); omega⟩ dX10_unlikeBy_78 (fun x1590 ex1590 bx1590 => ?_)
            refine x_iast C hTH1528 hSH1528 gq1584 rg_115 (by omega) (by show _ < ((160 : Nat) : Int); omega) ⟨by have := i_rng x1590; omega, by have := i_rng x1590; omega⟩ (AE_in gq1584 (by decide)) dX10_unlikeBy_79 (fun H1591 locsH1591 hTH1591 hSH1591 wH1591 => ?_)
            have g1592 : CG (avw K H1591 a0) := CG.congr (fun k hk j => av_arr hTH1528 ga0 wH1591 gq1584 (by decide) (CG_ok 115 (by decide) k hk)) gy1533_CG
            have m1593 := cy1533_0.trans (Wr.neR wH1591 (Or.inl (G_ne ga0 gq1584 (by decide)))).symm
            have m1594 := cy1533_1.trans (Wr.neI wH1591 (Or.inl (G_ne gslq gq1584 (by decide)))).symm
            have m1595 := eq1584.trans (Wr.neR wH1591 (Or.inl (G_ne ga0 gq1584 (by decide)))).symm
            have m1596 := eq1587.trans (Wr.neR wH1591 (Or.inl (G_ne ga0 gq1584 (by decide)))).symm
            have m1597 := ex1590.trans (Wr.neI wH1591 (Or.inl (G_ne gq1587 gq1584 (by decide)))).symm
            have m1598 := Wr.I wH1591
            have m1598 := m1598.symm
            obtain ⟨x1599, ex1599⟩ : ∃ y : Int32, y = x1532 + 1 := ⟨_, rfl⟩
            have tx1599 := i_add ex1599 (by omega)
            refine lv_iinc (v := x1599) (lv' := [(6, .int x1599), (0, .ref a0), (1, .int x1), (2, .int x2), (3, .int x1501), (4, .int x1502), (5, .int x1503)]) hx hb dX10_unlikeBy_80 hl1530 (k := 6) rfl (by rw [ex1599]; rfl) (by decide) rfl (fun ls1600 hl1601 => ?_)
            refine lv_goto (tgt := 49) hx hb dX10_unlikeBy_83 (by decide) ?_
            exact ih49 ls1600 H1591 locsH1591 (x1599) (lv_sub hl1601 [1, 2, 3, 4, 5, 6, 0] rfl) hTH1591 hSH1591 (by have := i_rng x1503; omega) (by have := i_rng x1599; omega) m1593 m1594 g1592 (by omega) (by omega)
      refine lv_iload hx hb dX10_unlikeBy_37 (lv_at hl1500 5 rfl) ?_
      refine lv_aload_n hx hb dX10_unlikeBy_39 rfl (lv_at hl1500 0 rfl) ?_
      refine x_gi C hTH1498 (ci := 10) (k := 56) rfl inX10 (by decide) wF_X10_378 ga0 rg_112 rfl dX10_unlikeBy_40 (fun x1602 ex1602 bx1602 => ?_)
      refine lv_icmp_ge (tgt := 149) hx hb dX10_unlikeBy_43 (by decide) (fun c1603 => ?_) (fun c1603 => ?_)
      · have k1604 := i_le c1603
        refine lv_aload_n hx hb dX10_unlikeBy_149 rfl (lv_at hl1500 0 rfl) ?_
        refine x_gr C hTH1498 (ci := 10) (k := 5) rfl inX10 (by decide) wF_X10_17 ga0 rg_112 rfl dX10_unlikeBy_150 (fun q1605 eq1605 gq1605 => ?_)
        refine lv_bipush (v := 16) hx hb dX10_unlikeBy_153 (by decide) ?_
        refine lv_iload_n hx hb dX10_unlikeBy_155 rfl (lv_at hl1500 1 rfl) ?_
        refine lv_imul hx hb dX10_unlikeBy_156 ?_
        refine lv_topi (fun x1606 ex1606 => ?_)
        have tx1606 := i_mul ex1606 (by rw [n_16]; omega)
        rw [n_16] at tx1606
        refine lv_iload_n hx hb dX10_unlikeBy_157 rfl (lv_at hl1500 2 rfl) ?_
        refine lv_iadd hx hb dX10_unlikeBy_158 ?_
        refine lv_topi (fun x1607 ex1607 => ?_)
        have tx1607 := i_add ex1607 (by omega)
        refine lv_aload_n hx hb dX10_unlikeBy_159 rfl (lv_at hl1500 0 rfl) ?_
        refine x_gr C hTH1498 (ci := 10) (k := 5) rfl inX10 (by decide) wF_X10_17 ga0 rg_112 rfl dX10_unlikeBy_160 (fun q1608 eq1608 gq1608 => ?_)
        have uq1608 : q1605 = q1608 := (eq1605).trans eq1608.symm
        subst uq1608
        refine lv_bipush (v := 16) hx hb dX10_unlikeBy_163 (by decide) ?_
        refine lv_iload_n hx hb dX10_unlikeBy_165 rfl (lv_at hl1500 1 rfl) ?_
        refine lv_imul hx hb dX10_unlikeBy_166 ?_
        refine lv_topi (fun x1609 ex1609 => ?_)
        have tx1609 := i_mul ex1609 (by rw [n_16]; omega)
        rw [n_16] at tx1609
        refine lv_iload_n hx hb dX10_unlikeBy_167 rfl (lv_at hl1500 2 rfl) ?_
        refine lv_iadd hx hb dX10_unlikeBy_168 ?_
        refine lv_topi (fun x1610 ex1610 => ?_)
        have tx1610 := i_add ex1610 (by omega)
        refine x_ai C hTH1498 gq1605 rg_114 ⟨by omega, by show _ < ((160 : Nat) : Int); omega⟩ dX10_unlikeBy_169 (fun x1611 ex1611 bx1611 => ?_)
        refine lv_iconst (v := 1) hx hb dX10_unlikeBy_170 (by decide) ?_
        refine lv_iadd hx hb dX10_unlikeBy_171 ?_
        refine lv_topi (fun x1612 ex1612 => ?_)
        refine x_iast C hTH1498 hSH1498 gq1605 rg_114 (by omega) (by show _ < ((160 : Nat) : Int); omega) ⟨by have := i_rng x1612; omega, by have := i_rng x1612; omega⟩ (AE_in gq1605 (by decide)) dX10_unlikeBy_172 (fun H1613 locsH1613 hTH1613 hSH1613 wH1613 => ?_)
        have g1614 : CG (avw K H1613 a0) := CG.congr (fun k hk j => av_arr hTH1498 ga0 wH1613 gq1605 (by decide) (CG_ok 114 (by decide) k hk)) gy1504_CG
        have m1615 := cy1504_0.trans (Wr.neR wH1613 (Or.inl (G_ne ga0 gq1605 (by decide)))).symm
        have m1616 := cy1504_1.trans (Wr.neI wH1613 (Or.inl (G_ne gslq gq1605 (by decide)))).symm
        have m1617 := ex1602.trans (Wr.neI wH1613 (Or.inl (G_ne ga0 gq1605 (by decide)))).symm
        have m1618 := eq1605.trans (Wr.neR wH1613 (Or.inl (G_ne ga0 gq1605 (by decide)))).symm
        have m1620 := Wr.I wH1613
        have m1620 := m1620.symm
        refine lv_iconst (v := 0) hx hb dX10_unlikeBy_173 (by decide) ?_
        refine lv_istore (lv' := [(5, .int 0), (0, .ref a0), (1, .int x1), (2, .int x2), (3, .int x1501), (4, .int x1502)]) hx hb dX10_unlikeBy_174 hl1500 (by decide) rfl (fun ls1621 hl1622 => ?_)
        exact J176 ((5 - (0 : Int32).toInt).toNat + 1) ls1621 H1613 locsH1613 (0) (lv_sub hl1622 [1, 2, 4, 5, 0] rfl) hTH1613 hSH1613 (by decide) m1615 m1616 g1614 (by omega)
      · have k1604 := i_nle c1603
        refine lv_iconst (v := 0) hx hb dX10_unlikeBy_46 (by decide) ?_
        refine lv_istore (lv' := [(6, .int 0), (0, .ref a0), (1, .int x1), (2, .int x2), (3, .int x1501), (4, .int x1502), (5, .int x1503)]) hx hb dX10_unlikeBy_47 hl1500 (by decide) rfl (fun ls1623 hl1624 => ?_)
        exact J49 ((5 - (0 : Int32).toInt).toNat + 1) ls1623 H1498 locsH1498 (0) (lv_sub hl1624 [1, 2, 3, 4, 5, 6, 0] rfl) hTH1498 hSH1498 (by have := i_rng x1503; omega) (by decide) cy1504_0 cy1504_1 gy1504_CG (by omega) (by omega)
  refine lv_iconst (v := 0) hx hb dX10_unlikeBy_0 (by decide) ?_
  refine lv_istore_n (lv' := [(3, .int 0), (0, .ref a0), (1, .int x1), (2, .int x2)]) hx hb dX10_unlikeBy_1 rfl hl (by decide) rfl (fun ls1625 hl1626 => ?_)
  refine lv_aload_n hx hb dX10_unlikeBy_2 rfl (lv_at hl1626 1 rfl) ?_
  refine x_gr C hT (ci := 10) (k := 4) rfl inX10 (by decide) wF_X10_13 ga0 rg_112 rfl dX10_unlikeBy_3 (fun q1627 eq1627 gq1627 => ?_)
  have uq1627 : slq = q1627 := (eslq).trans eq1627.symm
  subst uq1627
  refine lv_iload_n hx hb dX10_unlikeBy_6 rfl (lv_at hl1626 2 rfl) ?_
  refine x_ai C hT gslq rg_113 ⟨by omega, by show _ < ((10 : Nat) : Int); omega⟩ dX10_unlikeBy_7 (fun x1628 ex1628 bx1628 => ?_)
  have ux1628 : sz = x1628 := (esz).trans ex1628.symm
  subst ux1628
  refine lv_istore (lv' := [(4, .int sz), (3, .int 0), (0, .ref a0), (1, .int x1), (2, .int x2)]) hx hb dX10_unlikeBy_8 hl1626 (by decide) rfl (fun ls1629 hl1630 => ?_)
  refine lv_aload_n hx hb dX10_unlikeBy_10 rfl (lv_at hl1630 2 rfl) ?_
  refine x_gr C hT (ci := 10) (k := 5) rfl inX10 (by decide) wF_X10_17 ga0 rg_112 rfl dX10_unlikeBy_11 (fun q1631 eq1631 gq1631 => ?_)
  refine lv_bipush (v := 16) hx hb dX10_unlikeBy_14 (by decide) ?_
  refine lv_iload_n hx hb dX10_unlikeBy_16 rfl (lv_at hl1630 3 rfl) ?_
  refine lv_imul hx hb dX10_unlikeBy_17 ?_
  refine lv_topi (fun x1632 ex1632 => ?_)
  have tx1632 := i_mul ex1632 (by rw [n_16]; omega)
  rw [n_16] at tx1632
  refine lv_iload_n hx hb dX10_unlikeBy_18 rfl (lv_at hl1630 4 rfl) ?_
  refine lv_iadd hx hb dX10_unlikeBy_19 ?_
  refine lv_topi (fun x1633 ex1633 => ?_)
  have tx1633 := i_add ex1633 (by omega)
  refine lv_aload_n hx hb dX10_unlikeBy_20 rfl (lv_at hl1630 2 rfl) ?_
  refine x_gr C hT (ci := 10) (k := 5) rfl inX10 (by decide) wF_X10_17 ga0 rg_112 rfl dX10_unlikeBy_21 (fun q1634 eq1634 gq1634 => ?_)
  have uq1634 : q1631 = q1634 := (eq1631).trans eq1634.symm
  subst uq1634
  refine lv_bipush (v := 16) hx hb dX10_unlikeBy_24 (by decide) ?_
  refine lv_iload_n hx hb dX10_unlikeBy_26 rfl (lv_at hl1630 3 rfl) ?_
  refine lv_imul hx hb dX10_unlikeBy_27 ?_
  refine lv_topi (fun x1635 ex1635 => ?_)
  have tx1635 := i_mul ex1635 (by rw [n_16]; omega)
  rw [n_16] at tx1635
  refine lv_iload_n hx hb dX10_unlikeBy_28 rfl (lv_at hl1630 4 rfl) ?_
  refine lv_iadd hx hb dX10_unlikeBy_29 ?_
  refine lv_topi (fun x1636 ex1636 => ?_)
  have tx1636 := i_add ex1636 (by omega)
  refine x_ai C hT gq1631 rg_114 ⟨by omega, by show _ < ((160 : Nat) : Int); omega⟩ dX10_unlikeBy_30 (fun x1637 ex1637 bx1637 => ?_)
  refine lv_iconst (v := 1) hx hb dX10_unlikeBy_31 (by decide) ?_
  refine lv_isub hx hb dX10_unlikeBy_32 ?_
  refine lv_topi (fun x1638 ex1638 => ?_)
  refine x_iast C hT hS gq1631 rg_114 (by omega) (by show _ < ((160 : Nat) : Int); omega) ⟨by have := i_rng x1638; omega, by have := i_rng x1638; omega⟩ (AE_in gq1631 (by decide)) dX10_unlikeBy_33 (fun H1639 locsH1639 hTH1639 hSH1639 wH1639 => ?_)
  have g1640 : CG (avw K H1639 a0) := CG.congr (fun k hk j => av_arr hT ga0 wH1639 gq1631 (by decide) (CG_ok 114 (by decide) k hk)) hg_CG
  have m1641 := eslq.trans (Wr.neR wH1639 (Or.inl (G_ne ga0 gq1631 (by decide)))).symm
  have m1642 := esz.trans (Wr.neI wH1639 (Or.inl (G_ne gslq gq1631 (by decide)))).symm
  have m1643 := eq1631.trans (Wr.neR wH1639 (Or.inl (G_ne ga0 gq1631 (by decide)))).symm
  have m1645 := Wr.I wH1639
  have m1645 := m1645.symm
  refine lv_iconst (v := 0) hx hb dX10_unlikeBy_34 (by decide) ?_
  refine lv_istore (lv' := [(5, .int 0), (4, .int sz), (3, .int 0), (0, .ref a0), (1, .int x1), (2, .int x2)]) hx hb dX10_unlikeBy_35 hl1630 (by decide) rfl (fun ls1646 hl1647 => ?_)
  exact J37 ((1024 - (0 : Int32).toInt).toNat + 1) ls1646 H1639 locsH1639 (0) (sz) (0) (lv_sub hl1647 [3, 4, 5, 2, 1, 0] rfl) hTH1639 hSH1639 (by decide) (by have := i_rng sz; omega) (by decide) m1641 m1642 g1640 (by omega) (by omega)

set_option maxHeartbeats 4000000 in
set_option maxRecDepth 100000 in
theorem a_X10_nextPass (l : Launch) (K : KE) (G : Nat → Option Nat) (H : Heap) {a0 : Nat} (x1 : Int32) {slq : Nat} (sz : Int32) (hT : TY K G H) (ga0 : G a0 = some 112) (hx1 : 0 ≤ x1.toInt ∧ x1.toInt ≤ 9) (gslq : G slq = some 113) (eslq : slq = fR H a0 (K.1.2 10 4)) (esz : sz = fI H slq (x1 : Int32).toNatClampNeg) (hg_CG : CG (avw K H a0)) (hp0 : sz.toInt ≤ 5) : MX l K yX10_nextPass cX10_nextPass 6 (some .int) 7 172 0 0 [.ref a0, .int x1] H (AE G [114, 115, 153, 140, 139] H.size) (fun v H1 => ∃ (r : Int32), v = some (.int r) ∧ TY K G H1) := by
  refine MX.of (by decide +kernel) (Nat.le_of_ble_eq_true rfl) ?_
  intro p e s m below meth c ls Q C hH hl hQ
  subst hH
  have C : CX p K s m _ meth c RX10 cX10_nextPass 6 (some .int) "nextPass" := C
  obtain ⟨hx, hb, hml, hown, hts, hKT, hr, hlocks, hnm⟩ := id C
  have hl : lv_has ls 6 [(0, .ref a0), (1, .int x1)] := hl
  have hS : va_S (AE G [114, 115, 153, 140, 139] s.heap.size) s.heap s.heap [] := va_S.rf
  have n_m1 : ((-1) : Int32).toInt = -1 := rfl
  have n_0 : (0 : Int32).toInt = 0 := rfl
  have n_1 : (1 : Int32).toInt = 1 := rfl
  have n_16 : (16 : Int32).toInt = 16 := rfl
  have bsz := ty_ai (x := sz) esz hT gslq rg_113 (by omega)
  have hap : ∀ x y, x < 74 → y < 74 → x ≠ y → K.1.2 10 x ≠ K.1.2 10 y := x_apart hKT hts inX10 tyX10 tyX10_ok nmX10 rfl
  have J7 : ∀ (nf : Nat) (ls423 : Array Slot) (H422 : Heap) (locsH422 : List Loc) (x425 : Int32) (x426 : Int32) (x427 : Int32), lv_has ls423 6 [(0, .ref a0), (1, .int x1), (2, .int x425), (3, .int x426), (4, .int x427)] → TY K G H422 → va_S (AE G [114, 115, 153, 140, 139] s.heap.size) s.heap H422 locsH422 → ((-1) ≤ x425.toInt ∧ x425.toInt ≤ 4) → (0 ≤ x426.toInt ∧ x426.toInt ≤ 2147483647) → (0 ≤ x427.toInt ∧ x427.toInt ≤ 5) → (slq = fR H422 a0 (K.1.2 10 4)) → (sz = fI H422 slq (x1 : Int32).toNatClampNeg) → (CG (avw K H422 a0)) → (5 - x427.toInt < (nf : Int)) → W p l e ({ frames := 7, cells := 0, slots := 0, locals := 172 } : Room) s m (([.ref a0, .int x1] : List Value).toArray) below meth c H422 locsH422 0 0 Q (F0 m 7 ls423 []) := by
    intro nf
    induction nf with
    | zero =>
      intro ls423 H422 locsH422 x425 x426 x427 hl424 hTH422 hSH422 bx425 bx426 bx427 cy428_0 cy428_1 gy428_CG hm7
      exfalso
      omega
    | succ nf ih7 =>
      intro ls423 H422 locsH422 x425 x426 x427 hl424 hTH422 hSH422 bx425 bx426 bx427 cy428_0 cy428_1 gy428_CG hm7
      have J61 : ∀ (ls430 : Array Slot) (H429 : Heap) (locsH429 : List Loc) (x432 : Int32) (x433 : Int32), lv_has ls430 6 [(0, .ref a0), (1, .int x1), (2, .int x432), (3, .int x433), (4, .int x427)] → TY K G H429 → va_S (AE G [114, 115, 153, 140, 139] s.heap.size) s.heap H429 locsH429 → ((-1) ≤ x432.toInt ∧ x432.toInt ≤ 4) → (0 ≤ x433.toInt ∧ x433.toInt ≤ 2147483647) → (0 ≤ x427.toInt ∧ x427.toInt ≤ 4) → (slq = fR H429 a0 (K.1.2 10 4)) → (sz = fI H429 slq (x1 : Int32).toNatClampNeg) → (CG (avw K H429 a0)) → W p l e ({ frames := 7, cells := 0, slots := 0, locals := 172 } : Room) s m (([.ref a0, .int x1] : List Value).toArray) below meth c H429 locsH429 0 0 Q (F0 m 61 ls430 []) := by
        intro ls430 H429 locsH429 x432 x433 hl431 hTH429 hSH429 bx432 bx433 b434 cy435_0 cy435_1 gy435_CG
        obtain ⟨x436, ex436⟩ : ∃ y : Int32, y = x427 + 1 := ⟨_, rfl⟩
        have tx436 := i_add ex436 (by omega)
        refine lv_iinc (v := x436) (lv' := [(4, .int x436), (0, .ref a0), (1, .int x1), (2, .int x432), (3, .int x433)]) hx hb dX10_nextPass_61 hl431 (k := 4) rfl (by rw [ex436]; rfl) (by decide) rfl (fun ls437 hl438 => ?_)
        refine lv_goto (tgt := 7) hx hb dX10_nextPass_64 (by decide) ?_
        exact ih7 ls437 H429 locsH429 (x432) (x433) (x436) (lv_sub hl438 [1, 2, 3, 4, 0] rfl) hTH429 hSH429 (by have := i_rng x432; omega) (by have := i_rng x433; omega) (by have := i_rng x436; omega) cy435_0 cy435_1 gy435_CG (by omega)
      refine lv_iload hx hb dX10_nextPass_7 (lv_at hl424 4 rfl) ?_
      refine lv_aload_n hx hb dX10_nextPass_9 rfl (lv_at hl424 0 rfl) ?_
      refine x_gr C hTH422 (ci := 10) (k := 4) rfl inX10 (by decide) wF_X10_13 ga0 rg_112 rfl dX10_nextPass_10 (fun q439 eq439 gq439 => ?_)
      have uq439 : slq = q439 := (cy428_0).trans eq439.symm
      subst uq439
      refine lv_iload_n hx hb dX10_nextPass_13 rfl (lv_at hl424 1 rfl) ?_
      refine x_ai C hTH422 gslq rg_113 ⟨by omega, by show _ < ((10 : Nat) : Int); omega⟩ dX10_nextPass_14 (fun x440 ex440 bx440 => ?_)
      have ux440 : sz = x440 := (cy428_1).trans ex440.symm
      subst ux440
      refine lv_icmp_ge (tgt := 67) hx hb dX10_nextPass_15 (by decide) (fun c441 => ?_) (fun c441 => ?_)
      · have k442 := i_le c441
        refine lv_iload_n hx hb dX10_nextPass_67 rfl (lv_at hl424 2 rfl) ?_
        exact x_iret C hQ dX10_nextPass_68 hSH422 (by decide) (by decide) (⟨x425, rfl, hTH422⟩)
      · have k442 := i_nle c441
        refine lv_aload_n hx hb dX10_nextPass_18 rfl (lv_at hl424 0 rfl) ?_
        refine x_gr C hTH422 (ci := 10) (k := 5) rfl inX10 (by decide) wF_X10_17 ga0 rg_112 rfl dX10_nextPass_19 (fun q443 eq443 gq443 => ?_)
        refine lv_bipush (v := 16) hx hb dX10_nextPass_22 (by decide) ?_
        refine lv_iload_n hx hb dX10_nextPass_24 rfl (lv_at hl424 1 rfl) ?_
        refine lv_imul hx hb dX10_nextPass_25 ?_
        refine lv_topi (fun x444 ex444 => ?_)
        have tx444 := i_mul ex444 (by rw [n_16]; omega)
        rw [n_16] at tx444
        refine lv_iload hx hb dX10_nextPass_26 (lv_at hl424 4 rfl) ?_
        refine lv_iadd hx hb dX10_nextPass_28 ?_
        refine lv_topi (fun x445 ex445 => ?_)
        have tx445 := i_add ex445 (by omega)
        refine x_ai C hTH422 gq443 rg_114 ⟨by omega, by show _ < ((160 : Nat) : Int); omega⟩ dX10_nextPass_29 (fun x446 ex446 bx446 => ?_)
        refine lv_iconst (v := 1) hx hb dX10_nextPass_30 (by decide) ?_
        refine lv_icmp_gt (tgt := 37) hx hb dX10_nextPass_31 (by decide) (fun c447 => ?_) (fun c447 => ?_)
        · have k448 := i_lt c447
          refine lv_aload_n hx hb dX10_nextPass_37 rfl (lv_at hl424 0 rfl) ?_
          refine lv_iload_n hx hb dX10_nextPass_38 rfl (lv_at hl424 1 rfl) ?_
          refine lv_iload hx hb dX10_nextPass_39 (lv_at hl424 4 rfl) ?_
          refine x_V (As := [.int x1, .int x427]) (rest := []) C (a_X10_unlikeBy l K G H422 (x1) (x427) (sz) hTH422 ga0 (by omega) (by omega) gslq cy428_0 cy428_1 gy428_CG (by omega)) yo_X10_unlikeBy wM_X10_384 ⟨⟨by decide, by decide⟩, by decide, by decide⟩ (x_rv C hTH422 (ci := 10) rfl ga0 rg_112) rfl hl424.1 rfl (Nat.le_of_ble_eq_true rfl) dX10_nextPass_41 hSH422 (AE_sub (fun _ _ => rfl) (by decide) hSH422.1) (fun vH449 H449 locsH449 pH449 zH449 kH449 hSH449 => ?_)
          obtain ⟨x450, hvH449, hTH449⟩ := pH449
          subst hvH449
          have g451 : CG (avw K H449 a0) := CG.congr (fun k hk j => av_eff hTH422 kH449 ga0 (by decide) (CG_eff [114, 115, 153, 140, 139] (by decide) k hk)) gy428_CG
          have m452 := (cy428_0).trans (fR_kept (x_lt hTH422 kH449 ga0 (by decide))).symm
          have m453 := (cy428_1).trans (fI_kept (x_lt hTH422 kH449 gslq (by decide))).symm
          have m454 := (eq443).trans (fR_kept (x_lt hTH422 kH449 ga0 (by decide))).symm
          refine W.eq (g2 := F0 m 44 ls423 [.int x450]) rfl ?_
          refine lv_istore (lv' := [(5, .int x450), (0, .ref a0), (1, .int x1), (2, .int x425), (3, .int x426), (4, .int x427)]) hx hb dX10_nextPass_44 hl424 (by decide) rfl (fun ls455 hl456 => ?_)
          refine lv_iload hx hb dX10_nextPass_46 (lv_at hl456 0 rfl) ?_
          refine lv_iload_n hx hb dX10_nextPass_48 rfl (lv_at hl456 4 rfl) ?_
          refine lv_icmp_gt (tgt := 55) hx hb dX10_nextPass_49 (by decide) (fun c457 => ?_) (fun c457 => ?_)
          · have k458 := i_lt c457
            refine lv_iload hx hb dX10_nextPass_55 (lv_at hl456 5 rfl) ?_
            refine lv_istore_n (lv' := [(2, .int x427), (5, .int x450), (0, .ref a0), (1, .int x1), (3, .int x426), (4, .int x427)]) hx hb dX10_nextPass_57 rfl hl456 (by decide) rfl (fun ls459 hl460 => ?_)
            refine lv_iload hx hb dX10_nextPass_58 (lv_at hl460 1 rfl) ?_
            refine lv_istore_n (lv' := [(3, .int x450), (2, .int x427), (5, .int x450), (0, .ref a0), (1, .int x1), (4, .int x427)]) hx hb dX10_nextPass_60 rfl hl460 (by decide) rfl (fun ls461 hl462 => ?_)
            exact J61 ls461 H449 locsH449 (x427) (x450) (lv_sub hl462 [3, 4, 1, 0, 5] rfl) hTH449 hSH449 (by have := i_rng x427; omega) (by have := i_rng x450; omega) (by have := i_rng x427; omega) m452 m453 g451
          · have k458 := i_nlt c457
            refine lv_goto (tgt := 61) hx hb dX10_nextPass_52 (by decide) ?_
            exact J61 ls455 H449 locsH449 (x425) (x426) (lv_sub hl456 [1, 2, 3, 4, 5] rfl) hTH449 hSH449 (by have := i_rng x425; omega) (by have := i_rng x426; omega) (by have := i_rng x427; omega) m452 m453 g451
        · have k448 := i_nlt c447
          refine lv_goto (tgt := 61) hx hb dX10_nextPass_34 (by decide) ?_
          exact J61 ls423 H422 locsH422 (x425) (x426) (lv_sub hl424 [0, 1, 2, 3, 4] rfl) hTH422 hSH422 (by have := i_rng x425; omega) (by have := i_rng x426; omega) (by have := i_rng x427; omega) cy428_0 cy428_1 gy428_CG
  refine lv_iconst (v := (-1)) hx hb dX10_nextPass_0 (by decide) ?_
  refine lv_istore_n (lv' := [(2, .int (-1)), (0, .ref a0), (1, .int x1)]) hx hb dX10_nextPass_1 rfl hl (by decide) rfl (fun ls463 hl464 => ?_)
  refine lv_iconst (v := 0) hx hb dX10_nextPass_2 (by decide) ?_
  refine lv_istore_n (lv' := [(3, .int 0), (2, .int (-1)), (0, .ref a0), (1, .int x1)]) hx hb dX10_nextPass_3 rfl hl464 (by decide) rfl (fun ls465 hl466 => ?_)
  refine lv_iconst (v := 0) hx hb dX10_nextPass_4 (by decide) ?_
  refine lv_istore (lv' := [(4, .int 0), (3, .int 0), (2, .int (-1)), (0, .ref a0), (1, .int x1)]) hx hb dX10_nextPass_5 hl466 (by decide) rfl (fun ls467 hl468 => ?_)
  exact J7 ((5 - (0 : Int32).toInt).toNat + 1) ls467 s.heap [] ((-1)) (0) (0) (lv_sub hl468 [3, 4, 2, 1, 0] rfl) hT hS (by decide) (by decide) (by decide) eslq esz hg_CG (by omega)

