/-! ===== bounds of an array's places; digits ===== -/
def AB (H : Heap) (q n : Nat) (lo hi : Int) : Prop := ∀ j : Nat, j < n → lo ≤ (fI H q j).toInt ∧ (fI H q j).toInt ≤ hi
theorem AB.kept {H H1 : Heap} {q n : Nat} {lo hi : Int} (e : ∀ j : Nat, fI H1 q j = fI H q j) (h : AB H q n lo hi) : AB H1 q n lo hi := fun j hj => by rw [e j]; exact h j hj
theorem AB.weak {H : Heap} {q n n' : Nat} {lo hi lo' hi' : Int} (h : AB H q n lo hi) (h1 : n' ≤ n) (h2 : lo' ≤ lo) (h3 : hi ≤ hi') : AB H q n' lo' hi' := fun j hj => by have := h j (by omega); omega
theorem AB.nil {H : Heap} {q : Nat} {lo hi : Int} : AB H q 0 lo hi := fun j hj => by omega
theorem AB.at {H : Heap} {q n : Nat} {lo hi : Int} {x j : Int32} (h : AB H q n lo hi) (e : x = fI H q j.toNatClampNeg) (hj : j.toNatClampNeg < n) : lo ≤ x.toInt ∧ x.toInt ≤ hi := by rw [e]; exact h _ hj
theorem AB.put {H H1 : Heap} {q n : Nat} {lo hi : Int} {i : Nat} {x : Int32} (w : Wr H H1 q i (.int x)) (hx : lo ≤ x.toInt ∧ x.toInt ≤ hi) (h : AB H q n lo hi) : AB H1 q n lo hi := by
  intro j hj
  by_cases e : j = i
  · subst e; rw [Wr.I w]; exact hx
  · rw [Wr.neI w (Or.inr e)]; exact h j hj
theorem AB.ext {H H1 : Heap} {q n m : Nat} {lo hi : Int} {i : Nat} {x : Int32} (w : Wr H H1 q i (.int x)) (hx : lo ≤ x.toInt ∧ x.toInt ≤ hi) (h : AB H q n lo hi) (hi' : i = n) (hm : m = n + 1) : AB H1 q m lo hi := by
  intro j hj
  by_cases e : j = i
  · subst e; rw [Wr.I w]; exact hx
  · rw [Wr.neI w (Or.inr e)]; exact h j (by omega)
def dval (f : Nat → Int32) (m : Nat) : Nat → Nat
  | 0 => 0
  | n + 1 => dval f m n * m + (f n).toInt.toNat
theorem dval_congr {f g : Nat → Int32} (h : ∀ j, f j = g j) {m n : Nat} : dval f m n = dval g m n := by rw [show f = g from funext h]
theorem dval_same {f g : Nat → Int32} {m : Nat} : ∀ n, (∀ j, j < n → f j = g j) → dval f m n = dval g m n := by
  intro n
  induction n with
  | zero => intro _; rfl
  | succ n ih => intro h; rw [dval, dval, ih (fun j hj => h j (by omega)), h n (by omega)]
theorem dval_lt {H : Heap} {q m n : Nat} {hi : Int} (h : AB H q n 0 hi) (hm : hi < (m : Int)) : dval (fun j => fI H q j) m n < m ^ n := by
  induction n with
  | zero => simp [dval]
  | succ n ih =>
    have h1 := ih (fun j hj => h j (by omega))
    have h2 := h n (by omega)
    rw [dval, Nat.pow_succ]
    have h3 : (fI H q n).toInt.toNat < m := by omega
    have h4 : (dval (fun j => fI H q j) m n + 1) * m ≤ m ^ n * m := Nat.mul_le_mul_right m h1
    rw [Nat.add_mul, Nat.one_mul] at h4
    show _ + (fI H q n).toInt.toNat < _
    omega
theorem pw_le {m n : Nat} (hm : m ≤ 4) (hn : n ≤ 5) : m ^ n ≤ 1024 := Nat.le_trans (Nat.pow_le_pow_left hm n) (Nat.le_trans (Nat.pow_le_pow_right (by decide) hn) (by decide))
theorem dval_zero {H : Heap} {q m n : Nat} (h : AB H q n 0 0) : dval (fun j => fI H q j) m n = 0 := by
  induction n with
  | zero => rfl
  | succ n ih =>
    have h2 := h n (by omega)
    rw [dval, ih (fun j hj => h j (by omega))]
    show 0 * m + (fI H q n).toInt.toNat = 0
    omega
/-- behind k the digits were the last ones and are 0 now -/
def GI (f0 f : Nat → Int32) (n k m : Int) : Prop := ∀ j : Nat, (j : Int) < n → (k < (j : Int) → (f0 j).toInt = m - 1 ∧ (f j).toInt = 0) ∧ ((j : Int) ≤ k → f j = f0 j)
theorem GI.nil {f : Nat → Int32} {n k m : Int} (hk : n ≤ k + 1) : GI f f n k m := fun j hj => ⟨fun h => by omega, fun _ => rfl⟩
theorem GI.step {f0 f f1 : Nat → Int32} {n k k' m : Int} {i : Nat} (h : GI f0 f n k m) (hi : (i : Int) = k) (hk : k < n) (hx : (f i).toInt = m - 1) (ho : ∀ j, j ≠ i → f1 j = f j) (h0 : (f1 i).toInt = 0) (hk' : k' = k - 1) : GI f0 f1 n k' m := by
  intro j hj
  by_cases e : j = i
  · subst e
    exact ⟨fun _ => ⟨by rw [← (h j hj).2 (by omega)]; exact hx, h0⟩, fun h1 => by omega⟩
  · rw [ho j e]
    exact ⟨fun h1 => (h j hj).1 (by omega), fun h1 => (h j hj).2 (by omega)⟩
theorem GI.inc {f0 f f1 : Nat → Int32} {n i m : Nat} {k mi : Int} (h : GI f0 f n k mi) (hm : mi = (m : Int)) (hm1 : 1 ≤ m) (hi : (i : Int) = k) (hk : i < n) (ho : ∀ j, j ≠ i → f1 j = f j) (h1 : (f1 i).toInt = (f i).toInt + 1) (hp : 0 ≤ (f i).toInt) : dval f1 m n = dval f0 m n + 1 := by
  have key : ∀ d, i + 1 + d ≤ n → dval f1 m (i + 1 + d) = dval f0 m (i + 1 + d) + 1 := by
    intro d
    induction d with
    | zero =>
      intro _
      have e1 : dval f1 m i = dval f0 m i := dval_same i (fun j hj => by rw [ho j (by omega)]; exact (h j (by omega)).2 (by omega))
      have e2 : f i = f0 i := (h i (by omega)).2 (by omega)
      show dval f1 m i * m + (f1 i).toInt.toNat = dval f0 m i * m + (f0 i).toInt.toNat + 1
      rw [e1, h1, e2]
      rw [e2] at hp
      omega
    | succ d ih =>
      intro hd
      have e3 := ih (by omega)
      have e4 := (h (i + 1 + d) (by omega)).1 (by omega)
      have e5 := ho (i + 1 + d) (by omega)
      show dval f1 m (i + 1 + d) * m + (f1 (i + 1 + d)).toInt.toNat = dval f0 m (i + 1 + d) * m + (f0 (i + 1 + d)).toInt.toNat + 1
      rw [e3, e5, e4.1, e4.2, Nat.add_mul]
      omega
  have := key (n - (i + 1)) (by omega)
  rw [show i + 1 + (n - (i + 1)) = n by omega] at this
  exact this
theorem GI.ab {H H0 : Heap} {q n : Nat} {k m : Int} {hi : Int} (h : GI (fun j => fI H0 q j) (fun j => fI H q j) n k m) (h0 : AB H0 q n 0 hi) (hh : 0 ≤ hi) : AB H q n 0 hi := by
  intro j hj
  have h1 := h j (by omega)
  have h2 := h0 j hj
  dsimp only at h1
  by_cases e : k < (j : Int)
  · have := (h1.1 e).2
    omega
  · rw [h1.2 (by omega)]
    exact h2
set_option maxHeartbeats 4000000 in
set_option maxRecDepth 100000 in
theorem a_X10_does (l : Launch) (K : KE) (G : Nat → Option Nat) (H : Heap) {a0 : Nat} (x1 : Int32) (x2 : Int32) {slq : Nat} {ofq : Nat} (sz : Int32) (hT : TY K G H) (ga0 : G a0 = some 112) (hx1 : 0 ≤ x1.toInt ∧ x1.toInt ≤ 9) (hx2 : 0 ≤ x2.toInt ∧ x2.toInt ≤ 5) (gslq : G slq = some 113) (eslq : slq = fR H a0 (K.1.2 10 4)) (gofq : G ofq = some 145) (eofq : ofq = fR H a0 (K.1.2 10 49)) (esz : sz = fI H slq (x1 : Int32).toNatClampNeg) (hp0 : sz.toInt ≤ 8) : MX l K yX10_does cX10_does 6 (some .boolean) 2 50 0 0 [.ref a0, .int x1, .int x2] H (AE G [145] H.size) (fun v H1 => ∃ (r : Int32), v = some (.int r) ∧ (0 ≤ r.toInt ∧ r.toInt ≤ 1) ∧ TY K G H1) := by
  refine MX.of (by decide +kernel) (Nat.le_of_ble_eq_true rfl) ?_
  intro p e s m below meth c ls Q C hH hl hQ
  subst hH
  have C : CX p K s m _ meth c RX10 cX10_does 6 (some .boolean) "does" := C
  obtain ⟨hx, hb, hml, hown, hts, hKT, hr, hlocks, hnm⟩ := id C
  have hl : lv_has ls 6 [(0, .ref a0), (1, .int x1), (2, .int x2)] := hl
  have hS : va_S (AE G [145] s.heap.size) s.heap s.heap [] := va_S.rf
  have n_0 : (0 : Int32).toInt = 0 := rfl
  have n_1 : (1 : Int32).toInt = 1 := rfl
  have n_2 : (2 : Int32).toInt = 2 := rfl
  have n_8 : (8 : Int32).toInt = 8 := rfl
  have n_16 : (16 : Int32).toInt = 16 := rfl
  have bsz := ty_ai (x := sz) esz hT gslq rg_113 (by omega)
  have hap : ∀ x y, x < 74 → y < 74 → x ≠ y → K.1.2 10 x ≠ K.1.2 10 y := x_apart hKT hts inX10 tyX10 tyX10_ok nmX10 rfl
  have J2 : ∀ (nf : Nat) (ls750 : Array Slot) (H749 : Heap) (locsH749 : List Loc) (x752 : Int32), lv_has ls750 6 [(0, .ref a0), (1, .int x1), (2, .int x2), (3, .int x752)] → TY K G H749 → va_S (AE G [145] s.heap.size) s.heap H749 locsH749 → (0 ≤ x752.toInt ∧ x752.toInt ≤ 8) → (slq = fR H749 a0 (K.1.2 10 4)) → (ofq = fR H749 a0 (K.1.2 10 49)) → (sz = fI H749 slq (x1 : Int32).toNatClampNeg) → (AB H749 ofq (x752.toNatClampNeg) (0) (0)) → (8 - x752.toInt < (nf : Int)) → W p l e ({ frames := 2, cells := 0, slots := 0, locals := 50 } : Room) s m (([.ref a0, .int x1, .int x2] : List Value).toArray) below meth c H749 locsH749 0 0 Q (F0 m 2 ls750 []) := by
    intro nf
    induction nf with
    | zero =>
      intro ls750 H749 locsH749 x752 hl751 hTH749 hSH749 bx752 cy753_0 cy753_1 cy753_2 by753_of hm2
      exfalso
      omega
    | succ nf ih2 =>
      intro ls750 H749 locsH749 x752 hl751 hTH749 hSH749 bx752 cy753_0 cy753_1 cy753_2 by753_of hm2
      have J30 : ∀ (nf : Nat) (ls755 : Array Slot) (H754 : Heap) (locsH754 : List Loc) (x757 : Int32) (x758 : Int32), lv_has ls755 6 [(0, .ref a0), (1, .int x1), (2, .int x2), (3, .int x757), (4, .int x758)] → TY K G H754 → va_S (AE G [145] s.heap.size) s.heap H754 locsH754 → (0 ≤ x757.toInt ∧ x757.toInt ≤ 2) → (0 ≤ x758.toInt ∧ x758.toInt ≤ 5) → (slq = fR H754 a0 (K.1.2 10 4)) → (ofq = fR H754 a0 (K.1.2 10 49)) → (sz = fI H754 slq (x1 : Int32).toNatClampNeg) → (AB H754 ofq (8) (0) (x758.toInt)) → (5 - x758.toInt < (nf : Int)) → W p l e ({ frames := 2, cells := 0, slots := 0, locals := 50 } : Room) s m (([.ref a0, .int x1, .int x2] : List Value).toArray) below meth c H754 locsH754 0 0 Q (F0 m 30 ls755 []) := by
        intro nf
        induction nf with
        | zero =>
          intro ls755 H754 locsH754 x757 x758 hl756 hTH754 hSH754 bx757 bx758 cy759_0 cy759_1 cy759_2 by759_of hm30
          exfalso
          omega
        | succ nf ih30 =>
          intro ls755 H754 locsH754 x757 x758 hl756 hTH754 hSH754 bx757 bx758 cy759_0 cy759_1 cy759_2 by759_of hm30
          have J113 : ∀ (ls761 : Array Slot) (H760 : Heap) (locsH760 : List Loc) (x763 : Int32), lv_has ls761 6 [] → TY K G H760 → va_S (AE G [145] s.heap.size) s.heap H760 locsH760 → (0 ≤ x763.toInt ∧ x763.toInt ≤ 1) → (slq = fR H760 a0 (K.1.2 10 4)) → (ofq = fR H760 a0 (K.1.2 10 49)) → (sz = fI H760 slq (x1 : Int32).toNatClampNeg) → W p l e ({ frames := 2, cells := 0, slots := 0, locals := 50 } : Room) s m (([.ref a0, .int x1, .int x2] : List Value).toArray) below meth c H760 locsH760 0 0 Q (F0 m 113 ls761 [.int x763]) := by
            intro ls761 H760 locsH760 x763 hl762 hTH760 hSH760 bx763 cy764_0 cy764_1 cy764_2
            exact x_zret C hQ (i_01 (by omega)) dX10_does_113 hSH760 (by decide) (by decide) (⟨x763, rfl, by omega, hTH760⟩)
          refine lv_iload hx hb dX10_does_30 (lv_at hl756 4 rfl) ?_
          refine lv_iload_n hx hb dX10_does_32 rfl (lv_at hl756 2 rfl) ?_
          refine lv_icmp_ge (tgt := 103) hx hb dX10_does_33 (by decide) (fun c765 => ?_) (fun c765 => ?_)
          · have k766 := i_le c765
            refine lv_iload_n hx hb dX10_does_103 rfl (lv_at hl756 3 rfl) ?_
            refine lv_iconst (v := 2) hx hb dX10_does_104 (by decide) ?_
            refine lv_icmp_ne (tgt := 112) hx hb dX10_does_105 (by decide) (fun c767 => ?_) (fun c767 => ?_)
            · have k768 := i_ne c767
              refine lv_iconst (v := 0) hx hb dX10_does_112 (by decide) ?_
              exact J113 ls755 H754 locsH754 (0) (lv_sub hl756 [] rfl) hTH754 hSH754 (by decide) cy759_0 cy759_1 cy759_2
            · have k768 := i_eq c767
              refine lv_iconst (v := 1) hx hb dX10_does_108 (by decide) ?_
              refine lv_goto (tgt := 113) hx hb dX10_does_109 (by decide) ?_
              exact J113 ls755 H754 locsH754 (1) (lv_sub hl756 [] rfl) hTH754 hSH754 (by decide) cy759_0 cy759_1 cy759_2
          · have k766 := i_nle c765
            refine lv_aload_n hx hb dX10_does_36 rfl (lv_at hl756 0 rfl) ?_
            refine x_gr C hTH754 (ci := 10) (k := 45) rfl inX10 (by decide) wF_X10_101 ga0 rg_112 rfl dX10_does_37 (fun q769 eq769 gq769 => ?_)
            refine lv_iload hx hb dX10_does_40 (lv_at hl756 4 rfl) ?_
            refine x_ai C hTH754 gq769 rg_141 ⟨by omega, by show _ < ((5 : Nat) : Int); omega⟩ dX10_does_42 (fun x770 ex770 bx770 => ?_)
            refine lv_istore (lv' := [(5, .int x770), (0, .ref a0), (1, .int x1), (2, .int x2), (3, .int x757), (4, .int x758)]) hx hb dX10_does_43 hl756 (by decide) rfl (fun ls771 hl772 => ?_)
            refine lv_aload_n hx hb dX10_does_45 rfl (lv_at hl772 1 rfl) ?_
            refine x_gr C hTH754 (ci := 10) (k := 49) rfl inX10 (by decide) wF_X10_113 ga0 rg_112 rfl dX10_does_46 (fun q773 eq773 gq773 => ?_)
            have uq773 : ofq = q773 := (cy759_1).trans eq773.symm
            subst uq773
            refine lv_iload hx hb dX10_does_49 (lv_at hl772 0 rfl) ?_
            refine lv_aload_n hx hb dX10_does_51 rfl (lv_at hl772 1 rfl) ?_
            refine x_gr C hTH754 (ci := 10) (k := 49) rfl inX10 (by decide) wF_X10_113 ga0 rg_112 rfl dX10_does_52 (fun q774 eq774 gq774 => ?_)
            have uq774 : ofq = q774 := (cy759_1).trans eq774.symm
            subst uq774
            refine lv_iload hx hb dX10_does_55 (lv_at hl772 0 rfl) ?_
            refine x_ai C hTH754 gofq rg_145 ⟨by omega, by show _ < ((8 : Nat) : Int); omega⟩ dX10_does_57 (fun x775 ex775 bx775 => ?_)
            have clx775 := i_cl (x := x770) (by omega)
            have abx775 := (by759_of).at ex775 (by omega)
            refine lv_iconst (v := 1) hx hb dX10_does_58 (by decide) ?_
            refine lv_iadd hx hb dX10_does_59 ?_
            refine lv_topi (fun x776 ex776 => ?_)
            have tx776 := i_add ex776 (by omega)
            refine x_iast C hTH754 hSH754 gofq rg_145 (by omega) (by show _ < ((8 : Nat) : Int); omega) ⟨by have := i_rng x776; omega, by have := i_rng x776; omega⟩ (AE_in gofq (by decide)) dX10_does_60 (fun H777 locsH777 hTH777 hSH777 wH777 => ?_)
            have b778 : AB H777 ofq (8) (0) (x758.toInt + 1) := (AB.put wH777 (by omega) (AB.weak by759_of (Nat.le_refl _) (by omega) (by omega)))
            have m779 := cy759_0.trans (Wr.neR wH777 (Or.inl (G_ne ga0 gofq (by decide)))).symm
            have m780 := cy759_1.trans (Wr.neR wH777 (Or.inl (G_ne ga0 gofq (by decide)))).symm
            have m781 := cy759_2.trans (Wr.neI wH777 (Or.inl (G_ne gslq gofq (by decide)))).symm
            have m782 := eq769.trans (Wr.neR wH777 (Or.inl (G_ne ga0 gofq (by decide)))).symm
            have m783 := ex770.trans (Wr.neI wH777 (Or.inl (G_ne gq769 gofq (by decide)))).symm
            have m785 := Wr.I wH777
            have m785 := m785.symm
            refine lv_aload_n hx hb dX10_does_61 rfl (lv_at hl772 1 rfl) ?_
            refine x_gr C hTH777 (ci := 10) (k := 5) rfl inX10 (by decide) wF_X10_17 ga0 rg_112 rfl dX10_does_62 (fun q786 eq786 gq786 => ?_)
            refine lv_bipush (v := 16) hx hb dX10_does_65 (by decide) ?_
            refine lv_iload_n hx hb dX10_does_67 rfl (lv_at hl772 2 rfl) ?_
            refine lv_imul hx hb dX10_does_68 ?_
            refine lv_topi (fun x787 ex787 => ?_)
            have tx787 := i_mul ex787 (by rw [n_16]; omega)
            rw [n_16] at tx787
            refine lv_iload hx hb dX10_does_69 (lv_at hl772 0 rfl) ?_
            refine lv_iadd hx hb dX10_does_71 ?_
            refine lv_topi (fun x788 ex788 => ?_)
            have tx788 := i_add ex788 (by omega)
            refine x_ai C hTH777 gq786 rg_114 ⟨by omega, by show _ < ((160 : Nat) : Int); omega⟩ dX10_does_72 (fun x789 ex789 bx789 => ?_)
            refine lv_aload_n hx hb dX10_does_73 rfl (lv_at hl772 1 rfl) ?_
            refine x_gr C hTH777 (ci := 10) (k := 49) rfl inX10 (by decide) wF_X10_113 ga0 rg_112 rfl dX10_does_74 (fun q790 eq790 gq790 => ?_)
            have uq790 : ofq = q790 := (m780).trans eq790.symm
            subst uq790
            refine lv_iload hx hb dX10_does_77 (lv_at hl772 0 rfl) ?_
            refine x_ai C hTH777 gofq rg_145 ⟨by omega, by show _ < ((8 : Nat) : Int); omega⟩ dX10_does_79 (fun x791 ex791 bx791 => ?_)
            have ux791 : x776 = x791 := (m785).trans ex791.symm
            subst ux791
            refine lv_icmp_gt (tgt := 85) hx hb dX10_does_80 (by decide) (fun c792 => ?_) (fun c792 => ?_)
            · have k793 := i_lt c792
              refine lv_aload_n hx hb dX10_does_85 rfl (lv_at hl772 1 rfl) ?_
              refine lv_iload_n hx hb dX10_does_86 rfl (lv_at hl772 2 rfl) ?_
              refine x_V (As := [.int x1]) (rest := []) C (a_X10_wouldBe l K G H777 (x1) (sz) hTH777 ga0 (by omega) gslq m779 m781 (by omega)) yo_X10_wouldBe wM_X10_359 ⟨⟨by decide, by decide⟩, by decide, by decide⟩ (x_rv C hTH777 (ci := 10) rfl ga0 rg_112) rfl hl772.1 rfl (Nat.le_of_ble_eq_true rfl) dX10_does_87 hSH777 (AE_sub (fun _ _ => rfl) (by decide) hSH777.1) (fun vH794 H794 locsH794 pH794 zH794 kH794 hSH794 => ?_)
              obtain ⟨x795, hvH794, bx795, hTH794⟩ := pH794
              subst hvH794
              have b796 : AB H794 ofq (8) (0) (x758.toInt + 1) := AB.kept (fun j => fI_kept (x_lt hTH777 kH794 gofq (by decide))) b778
              have m797 := (m779).trans (fR_kept (x_lt hTH777 kH794 ga0 (by decide))).symm
              have m798 := (m780).trans (fR_kept (x_lt hTH777 kH794 ga0 (by decide))).symm
              have m799 := (m781).trans (fI_kept (x_lt hTH777 kH794 gslq (by decide))).symm
              have m800 := (m782).trans (fR_kept (x_lt hTH777 kH794 ga0 (by decide))).symm
              have m801 := (m783).trans (fI_kept (x_lt hTH777 kH794 gq769 (by decide))).symm
              have m802 := (m785).trans (fI_kept (x_lt hTH777 kH794 gofq (by decide))).symm
              have m803 := (eq786).trans (fR_kept (x_lt hTH777 kH794 ga0 (by decide))).symm
              have m804 := (ex789).trans (fI_kept (x_lt hTH777 kH794 gq786 (by decide))).symm
              refine W.eq (g2 := F0 m 90 ls771 [.int x795]) rfl ?_
              refine lv_istore_n (lv' := [(3, .int x795), (5, .int x770), (0, .ref a0), (1, .int x1), (2, .int x2), (4, .int x758)]) hx hb dX10_does_90 rfl hl772 (by decide) rfl (fun ls805 hl806 => ?_)
              refine lv_iload_n hx hb dX10_does_91 rfl (lv_at hl806 0 rfl) ?_
              refine lv_if_ne (tgt := 97) hx hb dX10_does_92 (by decide) (fun c807 => ?_) (fun c807 => ?_)
              · have k808 := i_ne c807
                obtain ⟨x809, ex809⟩ : ∃ y : Int32, y = x758 + 1 := ⟨_, rfl⟩
                have tx809 := i_add ex809 (by omega)
                refine lv_iinc (v := x809) (lv' := [(4, .int x809), (3, .int x795), (5, .int x770), (0, .ref a0), (1, .int x1), (2, .int x2)]) hx hb dX10_does_97 hl806 (k := 5) rfl (by rw [ex809]; rfl) (by decide) rfl (fun ls810 hl811 => ?_)
                refine lv_goto (tgt := 30) hx hb dX10_does_100 (by decide) ?_
                exact ih30 ls810 H794 locsH794 (x795) (x809) (lv_sub hl811 [3, 4, 5, 1, 0] rfl) hTH794 hSH794 (by have := i_rng x795; omega) (by have := i_rng x809; omega) m797 m798 m799 (AB.weak b796 (by omega) (by omega) (by omega)) (by omega)
              · have k808 := i_eq c807
                refine lv_iconst (v := 0) hx hb dX10_does_95 (by decide) ?_
                exact x_zret C hQ (Or.inl rfl) dX10_does_96 hSH794 (by decide) (by decide) (⟨0, rfl, by decide, hTH794⟩)
            · have k793 := i_nlt c792
              refine lv_iconst (v := 0) hx hb dX10_does_83 (by decide) ?_
              exact x_zret C hQ (Or.inl rfl) dX10_does_84 hSH777 (by decide) (by decide) (⟨0, rfl, by decide, hTH777⟩)
      refine lv_iload_n hx hb dX10_does_2 rfl (lv_at hl751 3 rfl) ?_
      refine lv_bipush (v := 8) hx hb dX10_does_3 (by decide) ?_
      refine lv_icmp_ge (tgt := 21) hx hb dX10_does_5 (by decide) (fun c812 => ?_) (fun c812 => ?_)
      · have k813 := i_le c812
        refine lv_aload_n hx hb dX10_does_21 rfl (lv_at hl751 0 rfl) ?_
        refine lv_iload_n hx hb dX10_does_22 rfl (lv_at hl751 1 rfl) ?_
        refine x_V (As := [.int x1]) (rest := []) C (a_X10_wouldBe l K G H749 (x1) (sz) hTH749 ga0 (by omega) gslq cy753_0 cy753_2 (by omega)) yo_X10_wouldBe wM_X10_359 ⟨⟨by decide, by decide⟩, by decide, by decide⟩ (x_rv C hTH749 (ci := 10) rfl ga0 rg_112) rfl hl751.1 rfl (Nat.le_of_ble_eq_true rfl) dX10_does_23 hSH749 (AE_sub (fun _ _ => rfl) (by decide) hSH749.1) (fun vH814 H814 locsH814 pH814 zH814 kH814 hSH814 => ?_)
        obtain ⟨x815, hvH814, bx815, hTH814⟩ := pH814
        subst hvH814
        have b816 : AB H814 ofq (x752.toNatClampNeg) (0) (0) := AB.kept (fun j => fI_kept (x_lt hTH749 kH814 gofq (by decide))) by753_of
        have m817 := (cy753_0).trans (fR_kept (x_lt hTH749 kH814 ga0 (by decide))).symm
        have m818 := (cy753_1).trans (fR_kept (x_lt hTH749 kH814 ga0 (by decide))).symm
        have m819 := (cy753_2).trans (fI_kept (x_lt hTH749 kH814 gslq (by decide))).symm
        refine W.eq (g2 := F0 m 26 ls750 [.int x815]) rfl ?_
        refine lv_istore_n (lv' := [(3, .int x815), (0, .ref a0), (1, .int x1), (2, .int x2)]) hx hb dX10_does_26 rfl hl751 (by decide) rfl (fun ls820 hl821 => ?_)
        refine lv_iconst (v := 0) hx hb dX10_does_27 (by decide) ?_
        refine lv_istore (lv' := [(4, .int 0), (3, .int x815), (0, .ref a0), (1, .int x1), (2, .int x2)]) hx hb dX10_does_28 hl821 (by decide) rfl (fun ls822 hl823 => ?_)
        have cl_x752 := i_cl (x := x752) (by omega)
        exact J30 ((5 - (0 : Int32).toInt).toNat + 1) ls822 H814 locsH814 (x815) (0) (lv_sub hl823 [2, 3, 4, 1, 0] rfl) hTH814 hSH814 (by have := i_rng x815; omega) (by decide) m817 m818 m819 (AB.weak b816 (by omega) (by omega) (by omega)) (by omega)
      · have k813 := i_nle c812
        refine lv_aload_n hx hb dX10_does_8 rfl (lv_at hl751 0 rfl) ?_
        refine x_gr C hTH749 (ci := 10) (k := 49) rfl inX10 (by decide) wF_X10_113 ga0 rg_112 rfl dX10_does_9 (fun q824 eq824 gq824 => ?_)
        have uq824 : ofq = q824 := (cy753_1).trans eq824.symm
        subst uq824
        refine lv_iload_n hx hb dX10_does_12 rfl (lv_at hl751 3 rfl) ?_
        refine lv_iconst (v := 0) hx hb dX10_does_13 (by decide) ?_
        refine x_iast C hTH749 hSH749 gofq rg_145 (by omega) (by show _ < ((8 : Nat) : Int); omega) (by decide) (AE_in gofq (by decide)) dX10_does_14 (fun H825 locsH825 hTH825 hSH825 wH825 => ?_)
        have cjH825 := i_cl (x := x752) (by omega)
        have b827 : AB H825 ofq (x752.toNatClampNeg + 1) (0) (0) := (AB.ext wH825 (by decide) by753_of (by omega) rfl)
        have m828 := cy753_0.trans (Wr.neR wH825 (Or.inl (G_ne ga0 gofq (by decide)))).symm
        have m829 := cy753_1.trans (Wr.neR wH825 (Or.inl (G_ne ga0 gofq (by decide)))).symm
        have m830 := cy753_2.trans (Wr.neI wH825 (Or.inl (G_ne gslq gofq (by decide)))).symm
        have m831 := Wr.I wH825
        obtain ⟨x832, ex832⟩ : ∃ y : Int32, y = x752 + 1 := ⟨_, rfl⟩
        have tx832 := i_add ex832 (by omega)
        refine lv_iinc (v := x832) (lv' := [(3, .int x832), (0, .ref a0), (1, .int x1), (2, .int x2)]) hx hb dX10_does_15 hl751 (k := 3) rfl (by rw [ex832]; rfl) (by decide) rfl (fun ls833 hl834 => ?_)
        refine lv_goto (tgt := 2) hx hb dX10_does_18 (by decide) ?_
        have cl_x752 := i_cl (x := x752) (by omega)
        have cl_x832 := i_cl (x := x832) (by omega)
        exact ih2 ls833 H825 locsH825 (x832) (lv_sub hl834 [1, 2, 3, 0] rfl) hTH825 hSH825 (by have := i_rng x832; omega) m828 m829 m830 (AB.weak b827 (by omega) (by omega) (by omega)) (by omega)
  refine lv_iconst (v := 0) hx hb dX10_does_0 (by decide) ?_
  refine lv_istore_n (lv' := [(3, .int 0), (0, .ref a0), (1, .int x1), (2, .int x2)]) hx hb dX10_does_1 rfl hl (by decide) rfl (fun ls835 hl836 => ?_)
  have cl_0 := i_cl (x := (0 : Int32)) (by omega)
  exact J2 ((8 - (0 : Int32).toInt).toNat + 1) ls835 s.heap [] (0) (lv_sub hl836 [1, 2, 3, 0] rfl) hT hS (by decide) eslq eofq esz (AB.weak (AB.nil (H := s.heap) (q := ofq) (lo := 0) (hi := 0)) (by omega) (by omega) (by omega)) (by omega)

set_option maxHeartbeats 4000000 in
set_option maxRecDepth 100000 in
theorem a_X10_goesOn (l : Launch) (K : KE) (G : Nat → Option Nat) (H : Heap) {a0 : Nat} (x1 : Int32) (x2 : Int32) {rq : Nat} (hT : TY K G H) (ga0 : G a0 = some 112) (hx1 : 0 ≤ x1.toInt ∧ x1.toInt ≤ 5) (hx2 : 1 ≤ x2.toInt ∧ x2.toInt ≤ 8) (grq : G rq = some 141) (erq : rq = fR H a0 (K.1.2 10 45)) (hb_rw : AB H rq (x1.toNatClampNeg) (0) (x2.toInt - 1)) : MX l K yX10_goesOn cX10_goesOn 4 (some .boolean) 0 0 0 0 [.ref a0, .int x1, .int x2] H (AE G [141] H.size) (fun v H1 => ∃ (r : Int32), v = some (.int r) ∧ (0 ≤ r.toInt ∧ r.toInt ≤ 1) ∧ (AB H1 rq (x1.toNatClampNeg) (0) (x2.toInt - 1)) ∧ (r.toInt = 0 ∨ dval (fun j => fI H1 rq j) x2.toNatClampNeg x1.toNatClampNeg = dval (fun j => fI H rq j) x2.toNatClampNeg x1.toNatClampNeg + 1) ∧ TY K G H1) := by
  refine MX.of (by decide +kernel) (Nat.le_of_ble_eq_true rfl) ?_
  intro p e s m below meth c ls Q C hH hl hQ
  subst hH
  have C : CX p K s m _ meth c RX10 cX10_goesOn 4 (some .boolean) "goesOn" := C
  obtain ⟨hx, hb, hml, hown, hts, hKT, hr, hlocks, hnm⟩ := id C
  have hl : lv_has ls 4 [(0, .ref a0), (1, .int x1), (2, .int x2)] := hl
  have hS : va_S (AE G [141] s.heap.size) s.heap s.heap [] := va_S.rf
  have n_0 : (0 : Int32).toInt = 0 := rfl
  have n_1 : (1 : Int32).toInt = 1 := rfl
  have hap : ∀ x y, x < 74 → y < 74 → x ≠ y → K.1.2 10 x ≠ K.1.2 10 y := x_apart hKT hts inX10 tyX10 tyX10_ok nmX10 rfl
  have hx1n := i_cl (x := x1) (by omega)
  have hx2n := i_cl (x := x2) (by omega)
  have J4 : ∀ (nf : Nat)  (ls226 : Array Slot) (H225 : Heap) (locsH225 : List Loc) (x228 : Int32), lv_has ls226 4 [(0, .ref a0), (2, .int x2), (3, .int x228)] → TY K G H225 → va_S (AE G [141] s.heap.size) s.heap H225 locsH225 → ((-1) ≤ x228.toInt ∧ x228.toInt ≤ 4) → (rq = fR H225 a0 (K.1.2 10 45)) → (x228.toInt - (-1) < (nf : Int)) → (x228.toInt < x1.toInt) → (GI (fun j => fI s.heap rq j) (fun j => fI H225 rq j) (x1.toNatClampNeg : Int) x228.toInt x2.toInt) → W p l e ({ frames := 0, cells := 0, slots := 0, locals := 0 } : Room) s m (([.ref a0, .int x1, .int x2] : List Value).toArray) below meth c H225 locsH225 0 0 Q (F0 m 4 ls226 []) := by
    intro nf
    induction nf with
    | zero =>
      intro  ls226 H225 locsH225 x228 hl227 hTH225 hSH225 bx228 cy229_0 hm4 iv4 hgi
      exfalso
      omega
    | succ nf ih4 =>
      intro  ls226 H225 locsH225 x228 hl227 hTH225 hSH225 bx228 cy229_0 hm4 iv4 hgi
      have hab := GI.ab hgi hb_rw (by omega)
      refine lv_iload_n hx hb dX10_goesOn_4 rfl (lv_at hl227 2 rfl) ?_
      refine lv_if_lt (tgt := 34) hx hb dX10_goesOn_5 (by decide) (fun c230 => ?_) (fun c230 => ?_)
      · have k231 := i_lt c230
        refine lv_iload_n hx hb dX10_goesOn_34 rfl (lv_at hl227 2 rfl) ?_
        refine lv_if_ge (tgt := 40) hx hb dX10_goesOn_35 (by decide) (fun c232 => ?_) (fun c232 => ?_)
        · have k233 := i_le c232
          exfalso
          omega
        · have k233 := i_nle c232
          refine lv_iconst (v := 0) hx hb dX10_goesOn_38 (by decide) ?_
          exact x_zret C hQ (Or.inl rfl) dX10_goesOn_39 hSH225 (by decide) (by decide) (⟨0, rfl, by decide, hab, Or.inl rfl, hTH225⟩)
      · have k231 := i_nlt c230
        refine lv_aload_n hx hb dX10_goesOn_8 rfl (lv_at hl227 0 rfl) ?_
        refine x_gr C hTH225 (ci := 10) (k := 45) rfl inX10 (by decide) wF_X10_101 ga0 rg_112 rfl dX10_goesOn_9 (fun q234 eq234 gq234 => ?_)
        have uq234 : rq = q234 := (cy229_0).trans eq234.symm
        subst uq234
        refine lv_iload_n hx hb dX10_goesOn_12 rfl (lv_at hl227 2 rfl) ?_
        refine x_ai C hTH225 grq rg_141 ⟨by omega, by show _ < ((5 : Nat) : Int); omega⟩ dX10_goesOn_13 (fun x235 ex235 bx235 => ?_)
        have clx235 := i_cl (x := x228) (by omega)
        have abx235 := (hab).at ex235 (by omega)
        refine lv_iload_n hx hb dX10_goesOn_14 rfl (lv_at hl227 1 rfl) ?_
        refine lv_iconst (v := 1) hx hb dX10_goesOn_15 (by decide) ?_
        refine lv_isub hx hb dX10_goesOn_16 ?_
        refine lv_topi (fun x236 ex236 => ?_)
        have tx236 := i_sub ex236 (by omega)
        refine lv_icmp_ne (tgt := 34) hx hb dX10_goesOn_17 (by decide) (fun c237 => ?_) (fun c237 => ?_)
        · have k238 := i_ne c237
          refine lv_iload_n hx hb dX10_goesOn_34 rfl (lv_at hl227 2 rfl) ?_
          refine lv_if_ge (tgt := 40) hx hb dX10_goesOn_35 (by decide) (fun c239 => ?_) (fun c239 => ?_)
          · have k240 := i_le c239
            have ck := i_cl (x := x228) (by omega)
            refine lv_aload_n hx hb dX10_goesOn_40 rfl (lv_at hl227 0 rfl) ?_
            refine x_gr C hTH225 (ci := 10) (k := 45) rfl inX10 (by decide) wF_X10_101 ga0 rg_112 rfl dX10_goesOn_41 (fun q241 eq241 gq241 => ?_)
            have uq241 : rq = q241 := (cy229_0).trans eq241.symm
            subst uq241
            refine lv_iload_n hx hb dX10_goesOn_44 rfl (lv_at hl227 2 rfl) ?_
            refine lv_aload_n hx hb dX10_goesOn_45 rfl (lv_at hl227 0 rfl) ?_
            refine x_gr C hTH225 (ci := 10) (k := 45) rfl inX10 (by decide) wF_X10_101 ga0 rg_112 rfl dX10_goesOn_46 (fun q242 eq242 gq242 => ?_)
            have uq242 : rq = q242 := (cy229_0).trans eq242.symm
            subst uq242
            refine lv_iload_n hx hb dX10_goesOn_49 rfl (lv_at hl227 2 rfl) ?_
            refine x_ai C hTH225 grq rg_141 ⟨by omega, by show _ < ((5 : Nat) : Int); omega⟩ dX10_goesOn_50 (fun x243 ex243 bx243 => ?_)
            have ux243 : x235 = x243 := (ex235).trans ex243.symm
            subst ux243
            refine lv_iconst (v := 1) hx hb dX10_goesOn_51 (by decide) ?_
            refine lv_iadd hx hb dX10_goesOn_52 ?_
            refine lv_topi (fun x244 ex244 => ?_)
            have tx244 := i_add ex244 (by omega)
            refine x_iast C hTH225 hSH225 grq rg_141 (by omega) (by show _ < ((5 : Nat) : Int); omega) ⟨by have := i_rng x244; omega, by have := i_rng x244; omega⟩ (AE_in grq (by decide)) dX10_goesOn_53 (fun H245 locsH245 hTH245 hSH245 wH245 => ?_)
            have m246 := cy229_0.trans (Wr.neR wH245 (Or.inl (G_ne ga0 grq (by decide)))).symm
            have m248 := Wr.I wH245
            have m248 := m248.symm
            refine lv_iconst (v := 1) hx hb dX10_goesOn_54 (by decide) ?_
            exact x_zret C hQ (Or.inr rfl) dX10_goesOn_55 hSH245 (by decide) (by decide) (⟨1, rfl, by decide, AB.put wH245 (by omega) hab, Or.inr (GI.inc (n := x1.toNatClampNeg) (m := x2.toNatClampNeg) (i := x228.toNatClampNeg) hgi (by omega) (by omega) (by omega) (by omega) (fun j hj => Wr.neI wH245 (Or.inr hj)) (by show (fI _ rq _).toInt = (fI _ rq _).toInt + 1; rw [Wr.I wH245, ← ex235]; omega) (by show 0 ≤ (fI _ rq _).toInt; rw [← ex235]; omega)), hTH245⟩)
          · have k240 := i_nle c239
            exfalso
            omega
        · have k238 := i_eq c237
          refine lv_aload_n hx hb dX10_goesOn_20 rfl (lv_at hl227 0 rfl) ?_
          refine x_gr C hTH225 (ci := 10) (k := 45) rfl inX10 (by decide) wF_X10_101 ga0 rg_112 rfl dX10_goesOn_21 (fun q249 eq249 gq249 => ?_)
          have uq249 : rq = q249 := (cy229_0).trans eq249.symm
          subst uq249
          refine lv_iload_n hx hb dX10_goesOn_24 rfl (lv_at hl227 2 rfl) ?_
          refine lv_iconst (v := 0) hx hb dX10_goesOn_25 (by decide) ?_
          refine x_iast C hTH225 hSH225 grq rg_141 (by omega) (by show _ < ((5 : Nat) : Int); omega) (by decide) (AE_in grq (by decide)) dX10_goesOn_26 (fun H250 locsH250 hTH250 hSH250 wH250 => ?_)
          have m251 := cy229_0.trans (Wr.neR wH250 (Or.inl (G_ne ga0 grq (by decide)))).symm
          have m253 := Wr.I wH250
          refine lv_iload_n hx hb dX10_goesOn_27 rfl (lv_at hl227 2 rfl) ?_
          refine lv_iconst (v := 1) hx hb dX10_goesOn_28 (by decide) ?_
          refine lv_isub hx hb dX10_goesOn_29 ?_
          refine lv_topi (fun x254 ex254 => ?_)
          have tx254 := i_sub ex254 (by omega)
          refine lv_istore_n (lv' := [(3, .int x254), (0, .ref a0), (2, .int x2)]) hx hb dX10_goesOn_30 rfl hl227 (by decide) rfl (fun ls255 hl256 => ?_)
          refine lv_goto (tgt := 4) hx hb dX10_goesOn_31 (by decide) ?_
          have ck := i_cl (x := x228) (by omega)
          exact ih4  ls255 H250 locsH250 (x254) (lv_sub hl256 [1, 2, 0] rfl) hTH250 hSH250 (by have := i_rng x254; omega) m251 (by omega) (by omega) (GI.step hgi (i := x228.toNatClampNeg) (by omega) (by omega) (by show (fI _ rq _).toInt = _; rw [← ex235]; omega) (fun j hj => Wr.neI wH250 (Or.inr hj)) (by show (fI _ rq _).toInt = 0; rw [Wr.I wH250]; rfl) (by omega))
  refine lv_iload_n hx hb dX10_goesOn_0 rfl (lv_at hl 1 rfl) ?_
  refine lv_iconst (v := 1) hx hb dX10_goesOn_1 (by decide) ?_
  refine lv_isub hx hb dX10_goesOn_2 ?_
  refine lv_topi (fun x257 ex257 => ?_)
  have tx257 := i_sub ex257 (by omega)
  refine lv_istore_n (lv' := [(3, .int x257), (0, .ref a0), (1, .int x1), (2, .int x2)]) hx hb dX10_goesOn_3 rfl hl (by decide) rfl (fun ls258 hl259 => ?_)
  exact J4 ((x257.toInt - (-1)).toNat + 1)  ls258 s.heap [] (x257) (lv_sub hl259 [1, 3, 0] rfl) hT hS (by have := i_rng x257; omega) erq (by omega) (by omega) (GI.nil (by omega))

set_option maxHeartbeats 4000000 in
set_option maxRecDepth 100000 in
theorem a_X10_findsFewest (l : Launch) (K : KE) (G : Nat → Option Nat) (H : Heap) {a0 : Nat} (x1 : Int32) {slq : Nat} {rq : Nat} (sz : Int32) (hT : TY K G H) (ga0 : G a0 = some 112) (hx1 : 0 ≤ x1.toInt ∧ x1.toInt ≤ 9) (gslq : G slq = some 113) (eslq : slq = fR H a0 (K.1.2 10 4)) (grq : G rq = some 141) (erq : rq = fR H a0 (K.1.2 10 45)) (esz : sz = fI H slq (x1 : Int32).toNatClampNeg) (hg_CG : CG (avw K H a0)) (hp0 : sz.toInt ≤ 8) (hp1 : 1 ≤ sz.toInt) : MX l K yX10_findsFewest cX10_findsFewest 4 (some .int) 5 122 0 0 [.ref a0, .int x1] H (AE G [114, 143, 144, 145, 141, 140, 139] H.size) (fun v H1 => ∃ (r : Int32), v = some (.int r) ∧ ((-1) ≤ r.toInt ∧ r.toInt ≤ 5) ∧ TY K G H1) := by
  refine MX.of (by decide +kernel) (Nat.le_of_ble_eq_true rfl) ?_
  intro p e s m below meth c ls Q C hH hl hQ
  subst hH
  have C : CX p K s m _ meth c RX10 cX10_findsFewest 4 (some .int) "findsFewest" := C
  obtain ⟨hx, hb, hml, hown, hts, hKT, hr, hlocks, hnm⟩ := id C
  have hl : lv_has ls 4 [(0, .ref a0), (1, .int x1)] := hl
  have hS : va_S (AE G [114, 143, 144, 145, 141, 140, 139] s.heap.size) s.heap s.heap [] := va_S.rf
  have n_m1 : ((-1) : Int32).toInt = -1 := rfl
  have n_0 : (0 : Int32).toInt = 0 := rfl
  have n_1 : (1 : Int32).toInt = 1 := rfl
  have n_5 : (5 : Int32).toInt = 5 := rfl
  have bsz := ty_ai (x := sz) esz hT gslq rg_113 (by omega)
  have hap : ∀ x y, x < 74 → y < 74 → x ≠ y → K.1.2 10 x ≠ K.1.2 10 y := x_apart hKT hts inX10 tyX10 tyX10_ok nmX10 rfl
  have J7 : ∀ (nf : Nat) (ls714 : Array Slot) (H713 : Heap) (locsH713 : List Loc) (x716 : Int32), lv_has ls714 4 [(0, .ref a0), (1, .int x1), (2, .int x716)] → TY K G H713 → va_S (AE G [114, 143, 144, 145, 141, 140, 139] s.heap.size) s.heap H713 locsH713 → (0 ≤ x716.toInt ∧ x716.toInt ≤ 6) → (slq = fR H713 a0 (K.1.2 10 4)) → (rq = fR H713 a0 (K.1.2 10 45)) → (sz = fI H713 slq (x1 : Int32).toNatClampNeg) → (CG (avw K H713 a0)) → (6 - x716.toInt < (nf : Int)) → W p l e ({ frames := 5, cells := 0, slots := 0, locals := 122 } : Room) s m (([.ref a0, .int x1] : List Value).toArray) below meth c H713 locsH713 0 0 Q (F0 m 7 ls714 []) := by
    intro nf
    induction nf with
    | zero =>
      intro ls714 H713 locsH713 x716 hl715 hTH713 hSH713 bx716 cy717_0 cy717_1 cy717_2 gy717_CG hm7
      exfalso
      omega
    | succ nf ih7 =>
      intro ls714 H713 locsH713 x716 hl715 hTH713 hSH713 bx716 cy717_0 cy717_1 cy717_2 gy717_CG hm7
      have J14 : ∀ (nf : Nat) (ls719 : Array Slot) (H718 : Heap) (locsH718 : List Loc) (x722 : Int32), lv_has ls719 4 [(0, .ref a0), (1, .int x1), (2, .int x716), (3, .int x722)] → TY K G H718 → va_S (AE G [114, 143, 144, 145, 141, 140, 139] s.heap.size) s.heap H718 locsH718 → (0 ≤ x716.toInt ∧ x716.toInt ≤ 5) → (0 ≤ x722.toInt ∧ x722.toInt ≤ 5) → (slq = fR H718 a0 (K.1.2 10 4)) → (rq = fR H718 a0 (K.1.2 10 45)) → (sz = fI H718 slq (x1 : Int32).toNatClampNeg) → (AB H718 rq (x722.toNatClampNeg) (0) (0)) → (CG (avw K H718 a0)) → (5 - x722.toInt < (nf : Int)) → W p l e ({ frames := 5, cells := 0, slots := 0, locals := 122 } : Room) s m (([.ref a0, .int x1] : List Value).toArray) below meth c H718 locsH718 0 0 Q (F0 m 14 ls719 []) := by
        intro nf
        induction nf with
        | zero =>
          intro ls719 H718 locsH718 x722 hl720 hTH718 hSH718 b721 bx722 cy723_0 cy723_1 cy723_2 by723_rw gy723_CG hm14
          exfalso
          omega
        | succ nf ih14 =>
          intro ls719 H718 locsH718 x722 hl720 hTH718 hSH718 b721 bx722 cy723_0 cy723_1 cy723_2 by723_rw gy723_CG hm14
          have J34 : ∀ (nf : Nat) (V : Nat) (ls725 : Array Slot) (H724 : Heap) (locsH724 : List Loc) (x727 : Int32), lv_has ls725 4 [(0, .ref a0), (1, .int x1), (2, .int x716), (3, .int x727)] → TY K G H724 → va_S (AE G [114, 143, 144, 145, 141, 140, 139] s.heap.size) s.heap H724 locsH724 → (0 ≤ x727.toInt ∧ x727.toInt ≤ 1) → (slq = fR H724 a0 (K.1.2 10 4)) → (rq = fR H724 a0 (K.1.2 10 45)) → (sz = fI H724 slq (x1 : Int32).toNatClampNeg) → (AB H724 rq (x716.toNatClampNeg) (0) (sz.toInt - 1)) → (CG (avw K H724 a0)) → (((sz.toNatClampNeg ^ x716.toNatClampNeg : Nat) : Int) - (V : Int) + x727.toInt < (nf : Int)) → (x727.toInt = 0 ∨ dval (fun j => fI H724 rq j) sz.toNatClampNeg x716.toNatClampNeg = V) → (V ≤ sz.toNatClampNeg ^ x716.toNatClampNeg) → W p l e ({ frames := 5, cells := 0, slots := 0, locals := 122 } : Room) s m (([.ref a0, .int x1] : List Value).toArray) below meth c H724 locsH724 0 0 Q (F0 m 34 ls725 []) := by
            intro nf
            induction nf with
            | zero =>
              intro V ls725 H724 locsH724 x727 hl726 hTH724 hSH724 bx727 cy728_0 cy728_1 cy728_2 by728_rw gy728_CG hm34 hV1 hV2
              exfalso
              omega
            | succ nf ih34 =>
              intro V ls725 H724 locsH724 x727 hl726 hTH724 hSH724 bx727 cy728_0 cy728_1 cy728_2 by728_rw gy728_CG hm34 hV1 hV2
              have cn0 := i_cl (x := x716) (by omega)
              refine lv_iload_n hx hb dX10_findsFewest_34 rfl (lv_at hl726 3 rfl) ?_
              refine lv_if_eq (tgt := 64) hx hb dX10_findsFewest_35 (by decide) (fun c729 => ?_) (fun c729 => ?_)
              · have k730 := i_eq c729
                obtain ⟨x731, ex731⟩ : ∃ y : Int32, y = x716 + 1 := ⟨_, rfl⟩
                have tx731 := i_add ex731 (by omega)
                refine lv_iinc (v := x731) (lv' := [(2, .int x731), (0, .ref a0), (1, .int x1), (3, .int x727)]) hx hb dX10_findsFewest_64 hl726 (k := 2) rfl (by rw [ex731]; rfl) (by decide) rfl (fun ls732 hl733 => ?_)
                refine lv_goto (tgt := 7) hx hb dX10_findsFewest_67 (by decide) ?_
                exact ih7 ls732 H724 locsH724 (x731) (lv_sub hl733 [1, 2, 0] rfl) hTH724 hSH724 (by have := i_rng x731; omega) cy728_0 cy728_1 cy728_2 gy728_CG (by omega)
              · have k730 := i_ne c729
                have hv : dval (fun j => fI H724 rq j) sz.toNatClampNeg x716.toNatClampNeg = V := by omega
                have cm0 := i_cl (x := sz) (by omega)
                refine lv_aload_n hx hb dX10_findsFewest_38 rfl (lv_at hl726 0 rfl) ?_
                refine lv_iload_n hx hb dX10_findsFewest_39 rfl (lv_at hl726 1 rfl) ?_
                refine lv_iload_n hx hb dX10_findsFewest_40 rfl (lv_at hl726 2 rfl) ?_
                obtain ⟨q734, eq734⟩ : ∃ z : Nat, z = fR H724 a0 (K.1.2 10 49) := ⟨_, rfl⟩
                have gq734 := ty_fr (q := q734) (k := 49) (u := 145) eq734 hTH724 ga0 rg_112 rfl
                refine x_V (As := [.int x1, .int x716]) (rest := []) C (a_X10_does l K G H724 (x1) (x716) (sz) hTH724 ga0 (by omega) (by omega) gslq cy728_0 gq734 eq734 cy728_2 (by omega)) yo_X10_does wM_X10_365 ⟨⟨by decide, by decide⟩, by decide, by decide⟩ (x_rv C hTH724 (ci := 10) rfl ga0 rg_112) rfl hl726.1 rfl (Nat.le_of_ble_eq_true rfl) dX10_findsFewest_41 hSH724 (AE_sub (fun _ _ => rfl) (by decide) hSH724.1) (fun vH735 H735 locsH735 pH735 zH735 kH735 hSH735 => ?_)
                obtain ⟨x736, hvH735, bx736, hTH735⟩ := pH735
                subst hvH735
                have b737 : AB H735 rq (x716.toNatClampNeg) (0) (sz.toInt - 1) := AB.kept (fun j => fI_kept (x_lt hTH724 kH735 grq (by decide))) by728_rw
                have b738 : dval (fun j => fI H735 rq j) (sz.toNatClampNeg) (x716.toNatClampNeg) = V := (dval_congr (fun j => fI_kept (x_lt hTH724 kH735 grq (by decide)))).trans hv
                have g739 : CG (avw K H735 a0) := CG.congr (fun k hk j => av_eff hTH724 kH735 ga0 (by decide) (CG_eff [145] (by decide) k hk)) gy728_CG
                have m740 := (cy728_0).trans (fR_kept (x_lt hTH724 kH735 ga0 (by decide))).symm
                have m741 := (cy728_1).trans (fR_kept (x_lt hTH724 kH735 ga0 (by decide))).symm
                have m742 := (cy728_2).trans (fI_kept (x_lt hTH724 kH735 gslq (by decide))).symm
                have m743 := (eq734).trans (fR_kept (x_lt hTH724 kH735 ga0 (by decide))).symm
                refine W.eq (g2 := F0 m 44 ls725 [.int x736]) rfl ?_
                refine lv_if_eq (tgt := 49) hx hb dX10_findsFewest_44 (by decide) (fun c744 => ?_) (fun c744 => ?_)
                · have k745 := i_eq c744
                  refine lv_aload_n hx hb dX10_findsFewest_49 rfl (lv_at hl726 0 rfl) ?_
                  refine lv_iload_n hx hb dX10_findsFewest_50 rfl (lv_at hl726 2 rfl) ?_
                  refine lv_aload_n hx hb dX10_findsFewest_51 rfl (lv_at hl726 0 rfl) ?_
                  refine x_gr C hTH735 (ci := 10) (k := 4) rfl inX10 (by decide) wF_X10_13 ga0 rg_112 rfl dX10_findsFewest_52 (fun q746 eq746 gq746 => ?_)
                  have uq746 : slq = q746 := (m740).trans eq746.symm
                  subst uq746
                  refine lv_iload_n hx hb dX10_findsFewest_55 rfl (lv_at hl726 1 rfl) ?_
                  refine x_ai C hTH735 gslq rg_113 ⟨by omega, by show _ < ((10 : Nat) : Int); omega⟩ dX10_findsFewest_56 (fun x747 ex747 bx747 => ?_)
                  have ux747 : sz = x747 := (m742).trans ex747.symm
                  subst ux747
                  refine x_V (As := [.int x716, .int sz]) (rest := []) C (a_X10_goesOn l K G H735 (x716) (sz) hTH735 ga0 (by omega) (by omega) grq m741 (AB.weak b737 (by omega) (by omega) (by omega))) yo_X10_goesOn wM_X10_368 ⟨⟨by decide, by decide⟩, by decide, by decide⟩ (x_rv C hTH735 (ci := 10) rfl ga0 rg_112) rfl hl726.1 rfl (Nat.le_of_ble_eq_true rfl) dX10_findsFewest_57 hSH735 (AE_sub (fun _ _ => rfl) (by decide) hSH735.1) (fun vH748 H748 locsH748 pH748 zH748 kH748 hSH748 => ?_)
                  obtain ⟨x749, hvH748, bx749, b750, m751, hTH748⟩ := pH748
                  subst hvH748
                  have g752 : CG (avw K H748 a0) := CG.congr (fun k hk j => av_eff hTH735 kH748 ga0 (by decide) (CG_eff [141] (by decide) k hk)) g739
                  have m753 := (m740).trans (fR_kept (x_lt hTH735 kH748 ga0 (by decide))).symm
                  have m754 := (m741).trans (fR_kept (x_lt hTH735 kH748 ga0 (by decide))).symm
                  have m755 := (m742).trans (fI_kept (x_lt hTH735 kH748 gslq (by decide))).symm
                  have m756 := (m743).trans (fR_kept (x_lt hTH735 kH748 ga0 (by decide))).symm
                  refine W.eq (g2 := F0 m 60 ls725 [.int x749]) rfl ?_
                  refine lv_istore_n (lv' := [(3, .int x749), (0, .ref a0), (1, .int x1), (2, .int x716)]) hx hb dX10_findsFewest_60 rfl hl726 (by decide) rfl (fun ls757 hl758 => ?_)
                  refine lv_goto (tgt := 34) hx hb dX10_findsFewest_61 (by decide) ?_
                  have cl_x716 := i_cl (x := x716) (by omega)
                  have cg := i_cl (x := x749) (by omega)
                  have hlt := dval_lt (m := sz.toNatClampNeg) b750 (by omega)
                  have hgo := m751
                  have hdv := b738
                  exact ih34 (V + x749.toNatClampNeg) ls757 H748 locsH748 (x749) (lv_sub hl758 [1, 2, 3, 0] rfl) hTH748 hSH748 (by have := i_rng x749; omega) m753 m754 m755 (AB.weak b750 (by omega) (by omega) (by omega)) g752 (by omega) (by omega) (by omega)
                · have k745 := i_ne c744
                  refine lv_iload_n hx hb dX10_findsFewest_47 rfl (lv_at hl726 2 rfl) ?_
                  exact x_iret C hQ dX10_findsFewest_48 hSH735 (by decide) (by decide) (⟨x716, rfl, by omega, hTH735⟩)
          refine lv_iload_n hx hb dX10_findsFewest_14 rfl (lv_at hl720 3 rfl) ?_
          refine lv_iload_n hx hb dX10_findsFewest_15 rfl (lv_at hl720 2 rfl) ?_
          refine lv_icmp_ge (tgt := 32) hx hb dX10_findsFewest_16 (by decide) (fun c759 => ?_) (fun c759 => ?_)
          · have k760 := i_le c759
            refine lv_iconst (v := 1) hx hb dX10_findsFewest_32 (by decide) ?_
            refine lv_istore_n (lv' := [(3, .int 1), (0, .ref a0), (1, .int x1), (2, .int x716)]) hx hb dX10_findsFewest_33 rfl hl720 (by decide) rfl (fun ls761 hl762 => ?_)
            have cl_x716 := i_cl (x := x716) (by omega)
            have cl_x722 := i_cl (x := x722) (by omega)
            have cl0_x716 := i_cl (x := x716) (by omega)
            have cl0_x722 := i_cl (x := x722) (by omega)
            exact J34 ((((sz.toNatClampNeg ^ x716.toNatClampNeg : Nat) : Int) - ((0 : Nat) : Int) + (1 : Int32).toInt).toNat + 1) (0 : Nat) ls761 H718 locsH718 (1) (lv_sub hl762 [1, 2, 3, 0] rfl) hTH718 hSH718 (by decide) cy723_0 cy723_1 cy723_2 (AB.weak by723_rw (by omega) (by omega) (by omega)) gy723_CG (by omega) (Or.inr (dval_zero (AB.weak by723_rw (by omega) (by omega) (by omega)))) (Nat.zero_le _)
          · have k760 := i_nle c759
            refine lv_aload_n hx hb dX10_findsFewest_19 rfl (lv_at hl720 0 rfl) ?_
            refine x_gr C hTH718 (ci := 10) (k := 45) rfl inX10 (by decide) wF_X10_101 ga0 rg_112 rfl dX10_findsFewest_20 (fun q763 eq763 gq763 => ?_)
            have uq763 : rq = q763 := (cy723_1).trans eq763.symm
            subst uq763
            refine lv_iload_n hx hb dX10_findsFewest_23 rfl (lv_at hl720 3 rfl) ?_
            refine lv_iconst (v := 0) hx hb dX10_findsFewest_24 (by decide) ?_
            refine x_iast C hTH718 hSH718 grq rg_141 (by omega) (by show _ < ((5 : Nat) : Int); omega) (by decide) (AE_in grq (by decide)) dX10_findsFewest_25 (fun H764 locsH764 hTH764 hSH764 wH764 => ?_)
            have g765 : CG (avw K H764 a0) := CG.congr (fun k hk j => av_arr hTH718 ga0 wH764 grq (by decide) (CG_ok 141 (by decide) k hk)) gy723_CG
            have cjH764 := i_cl (x := x722) (by omega)
            have b766 : AB H764 rq (x722.toNatClampNeg + 1) (0) (0) := (AB.ext wH764 (by decide) by723_rw (by omega) rfl)
            have m767 := cy723_0.trans (Wr.neR wH764 (Or.inl (G_ne ga0 grq (by decide)))).symm
            have m768 := cy723_1.trans (Wr.neR wH764 (Or.inl (G_ne ga0 grq (by decide)))).symm
            have m769 := cy723_2.trans (Wr.neI wH764 (Or.inl (G_ne gslq grq (by decide)))).symm
            have m770 := Wr.I wH764
            obtain ⟨x771, ex771⟩ : ∃ y : Int32, y = x722 + 1 := ⟨_, rfl⟩
            have tx771 := i_add ex771 (by omega)
            refine lv_iinc (v := x771) (lv' := [(3, .int x771), (0, .ref a0), (1, .int x1), (2, .int x716)]) hx hb dX10_findsFewest_26 hl720 (k := 3) rfl (by rw [ex771]; rfl) (by decide) rfl (fun ls772 hl773 => ?_)
            refine lv_goto (tgt := 14) hx hb dX10_findsFewest_29 (by decide) ?_
            have cl_x722 := i_cl (x := x722) (by omega)
            have cl_x771 := i_cl (x := x771) (by omega)
            exact ih14 ls772 H764 locsH764 (x771) (lv_sub hl773 [1, 2, 3, 0] rfl) hTH764 hSH764 (by have := i_rng x716; omega) (by have := i_rng x771; omega) m767 m768 m769 (AB.weak b766 (by omega) (by omega) (by omega)) g765 (by omega)
      refine lv_iload_n hx hb dX10_findsFewest_7 rfl (lv_at hl715 2 rfl) ?_
      refine lv_iconst (v := 5) hx hb dX10_findsFewest_8 (by decide) ?_
      refine lv_icmp_gt (tgt := 70) hx hb dX10_findsFewest_9 (by decide) (fun c774 => ?_) (fun c774 => ?_)
      · have k775 := i_lt c774
        refine lv_iconst (v := (-1)) hx hb dX10_findsFewest_70 (by decide) ?_
        exact x_iret C hQ dX10_findsFewest_71 hSH713 (by decide) (by decide) (⟨(-1), rfl, by decide, hTH713⟩)
      · have k775 := i_nlt c774
        refine lv_iconst (v := 0) hx hb dX10_findsFewest_12 (by decide) ?_
        refine lv_istore_n (lv' := [(3, .int 0), (0, .ref a0), (1, .int x1), (2, .int x716)]) hx hb dX10_findsFewest_13 rfl hl715 (by decide) rfl (fun ls776 hl777 => ?_)
        have cl_0 := i_cl (x := (0 : Int32)) (by omega)
        exact J14 ((5 - (0 : Int32).toInt).toNat + 1) ls776 H713 locsH713 (0) (lv_sub hl777 [1, 2, 3, 0] rfl) hTH713 hSH713 (by have := i_rng x716; omega) (by decide) cy717_0 cy717_1 cy717_2 (AB.weak (AB.nil (H := H713) (q := rq) (lo := 0) (hi := 0)) (by omega) (by omega) (by omega)) gy717_CG (by omega)
  refine lv_aload_n hx hb dX10_findsFewest_0 rfl (lv_at hl 0 rfl) ?_
  refine lv_iload_n hx hb dX10_findsFewest_1 rfl (lv_at hl 1 rfl) ?_
  refine x_V (As := [.int x1]) (rest := []) C (a_X10_findsTable l K G s.heap (x1) (sz) hT ga0 (by omega) gslq eslq esz hg_CG (by omega)) yo_X10_findsTable wM_X10_362 ⟨⟨by decide, by decide⟩, by decide, by decide⟩ (x_rv C hT (ci := 10) rfl ga0 rg_112) rfl hl.1 rfl (Nat.le_of_ble_eq_true rfl) dX10_findsFewest_2 hS (AE_sub (fun _ _ => rfl) (by decide) hS.1) (fun vH778 H778 locsH778 pH778 zH778 kH778 hSH778 => ?_)
  obtain ⟨hvH778, hTH778⟩ := pH778
  subst hvH778
  have g779 : CG (avw K H778 a0) := CG.congr (fun k hk j => av_eff hT kH778 ga0 (by decide) (CG_eff [114, 143, 144, 140, 139] (by decide) k hk)) hg_CG
  have m780 := (eslq).trans (fR_kept (x_lt hT kH778 ga0 (by decide))).symm
  have m781 := (erq).trans (fR_kept (x_lt hT kH778 ga0 (by decide))).symm
  have m782 := (esz).trans (fI_kept (x_lt hT kH778 gslq (by decide))).symm
  refine W.eq (g2 := F0 m 5 ls []) rfl ?_
  refine lv_iconst (v := 0) hx hb dX10_findsFewest_5 (by decide) ?_
  refine lv_istore_n (lv' := [(2, .int 0), (0, .ref a0), (1, .int x1)]) hx hb dX10_findsFewest_6 rfl hl (by decide) rfl (fun ls783 hl784 => ?_)
  exact J7 ((6 - (0 : Int32).toInt).toNat + 1) ls783 H778 locsH778 (0) (lv_sub hl784 [1, 2, 0] rfl) hTH778 hSH778 (by decide) m780 m781 m782 g779 (by omega)

set_option maxHeartbeats 4000000 in
set_option maxRecDepth 100000 in
theorem a_X10_findsFits (l : Launch) (K : KE) (G : Nat → Option Nat) (H : Heap) {a0 : Nat} (x1 : Int32) (x2 : Int32) (x3 : Int32) {slq : Nat} {rq : Nat} (fm : Int32) (sz : Int32) (hT : TY K G H) (ga0 : G a0 = some 112) (hx1 : 0 ≤ x1.toInt ∧ x1.toInt ≤ 9) (hx2 : 1 ≤ x2.toInt ∧ x2.toInt ≤ 4) (gslq : G slq = some 113) (eslq : slq = fR H a0 (K.1.2 10 4)) (grq : G rq = some 141) (erq : rq = fR H a0 (K.1.2 10 45)) (efm : fm = fI H a0 (K.1.2 10 56)) (esz : sz = fI H slq (x1 : Int32).toNatClampNeg) (hg_CG : CG (avw K H a0)) (hg_TU : TU (avw K H a0) (svw K H a0)) (hg_WD : WD (avw K H a0)) (hg_IM : IM (avw K H a0)) (hp0 : sz.toInt ≤ 5) (hp1 : 1 ≤ sz.toInt) : MX l K yX10_findsFits cX10_findsFits 7 none 6 146 0 0 [.ref a0, .int x1, .int x2, .int x3] H (AE G [112, 151, 141, 115, 152, 140, 139] H.size) (fun v H1 => ∃ (t0 : Int32), v = none ∧ t0 = fI H1 a0 (K.1.2 10 56) ∧ slq = fR H1 a0 (K.1.2 10 4) ∧ rq = fR H1 a0 (K.1.2 10 45) ∧ (CG (avw K H1 a0)) ∧ (TU (avw K H1 a0) (svw K H1 a0)) ∧ (WD (avw K H1 a0)) ∧ (IM (avw K H1 a0)) ∧ MF K H H1 a0 [56] ∧ TY K G H1) := by
  refine MX.of (by decide +kernel) (Nat.le_of_ble_eq_true rfl) ?_
  intro p e s m below meth c ls Q C hH hl hQ
  subst hH
  have C : CX p K s m _ meth c RX10 cX10_findsFits 7 none "findsFits" := C
  obtain ⟨hx, hb, hml, hown, hts, hKT, hr, hlocks, hnm⟩ := id C
  have hl : lv_has ls 7 [(0, .ref a0), (1, .int x1), (2, .int x2), (3, .int x3)] := hl
  have hS : va_S (AE G [112, 151, 141, 115, 152, 140, 139] s.heap.size) s.heap s.heap [] := va_S.rf
  have n_0 : (0 : Int32).toInt = 0 := rfl
  have n_1 : (1 : Int32).toInt = 1 := rfl
  have n_5 : (5 : Int32).toInt = 5 := rfl
  have n_16 : (16 : Int32).toInt = 16 := rfl
  have bfm := ty_fi (x := fm) (k := 56) efm hT ga0 rg_112 rfl
  have bsz := ty_ai (x := sz) esz hT gslq rg_113 (by omega)
  have hap : ∀ x y, x < 74 → y < 74 → x ≠ y → K.1.2 10 x ≠ K.1.2 10 y := x_apart hKT hts inX10 tyX10 tyX10_ok nmX10 rfl
  have mf0 : MF K s.heap s.heap a0 [56] := fun _ _ _ => rfl
  have hx2n := i_cl (x := x2) (by omega)
  have J11 : ∀ (nf : Nat) (ls5772 : Array Slot) (H5771 : Heap) (locsH5771 : List Loc) (x5774 : Int32) (x5775 : Int32) (x5776 : Int32), lv_has ls5772 7 [(0, .ref a0), (1, .int x1), (2, .int x2), (3, .int x3), (4, .int x5774), (5, .int x5775)] → TY K G H5771 → va_S (AE G [112, 151, 141, 115, 152, 140, 139] s.heap.size) s.heap H5771 locsH5771 → (1 ≤ x5774.toInt ∧ x5774.toInt ≤ 5) → (0 ≤ x5775.toInt ∧ x5775.toInt ≤ 5) → (0 ≤ x5776.toInt ∧ x5776.toInt ≤ 1024) → (x5776 = fI H5771 a0 (K.1.2 10 56)) → (slq = fR H5771 a0 (K.1.2 10 4)) → (rq = fR H5771 a0 (K.1.2 10 45)) → (sz = fI H5771 slq (x1 : Int32).toNatClampNeg) → (AB H5771 rq (x5775.toNatClampNeg) (0) (0)) → (MF K s.heap H5771 a0 [56]) → (CG (avw K H5771 a0)) → (TU (avw K H5771 a0) (svw K H5771 a0)) → (WD (avw K H5771 a0)) → (IM (avw K H5771 a0)) → (5 - x5775.toInt < (nf : Int)) → W p l e ({ frames := 6, cells := 0, slots := 0, locals := 146 } : Room) s m (([.ref a0, .int x1, .int x2, .int x3] : List Value).toArray) below meth c H5771 locsH5771 0 0 Q (F0 m 11 ls5772 []) := by
    intro nf
    induction nf with
    | zero =>
      intro ls5772 H5771 locsH5771 x5774 x5775 x5776 hl5773 hTH5771 hSH5771 bx5774 bx5775 bx5776 ex5776 cy5777_0 cy5777_1 cy5777_2 by5777_rw mfy5777 gy5777_CG gy5777_TU gy5777_WD gy5777_IM hm11
      exfalso
      omega
    | succ nf ih11 =>
      intro ls5772 H5771 locsH5771 x5774 x5775 x5776 hl5773 hTH5771 hSH5771 bx5774 bx5775 bx5776 ex5776 cy5777_0 cy5777_1 cy5777_2 by5777_rw mfy5777 gy5777_CG gy5777_TU gy5777_WD gy5777_IM hm11
      have J59 : ∀ (nf : Nat) (V : Nat) (ls5779 : Array Slot) (H5778 : Heap) (locsH5778 : List Loc) (x5781 : Int32) (x5782 : Int32), lv_has ls5779 7 [(0, .ref a0), (1, .int x1), (2, .int x2), (3, .int x3), (4, .int x5774), (5, .int x5781)] → TY K G H5778 → va_S (AE G [112, 151, 141, 115, 152, 140, 139] s.heap.size) s.heap H5778 locsH5778 → (0 ≤ x5781.toInt ∧ x5781.toInt ≤ 1) → (0 ≤ x5782.toInt ∧ x5782.toInt ≤ 1024) → (x5782 = fI H5778 a0 (K.1.2 10 56)) → (slq = fR H5778 a0 (K.1.2 10 4)) → (rq = fR H5778 a0 (K.1.2 10 45)) → (sz = fI H5778 slq (x1 : Int32).toNatClampNeg) → (AB H5778 rq (x5774.toNatClampNeg) (0) (x2.toInt - 1)) → (MF K s.heap H5778 a0 [56]) → (CG (avw K H5778 a0)) → (TU (avw K H5778 a0) (svw K H5778 a0)) → (WD (avw K H5778 a0)) → (IM (avw K H5778 a0)) → (((x2.toNatClampNeg ^ x5774.toNatClampNeg : Nat) : Int) - (V : Int) + x5781.toInt < (nf : Int)) → (x5781.toInt = 0 ∨ dval (fun j => fI H5778 rq j) x2.toNatClampNeg x5774.toNatClampNeg = V) → (V ≤ x2.toNatClampNeg ^ x5774.toNatClampNeg) → (x5782.toInt ≤ (V : Int) ∨ x5781.toInt = 0) → W p l e ({ frames := 6, cells := 0, slots := 0, locals := 146 } : Room) s m (([.ref a0, .int x1, .int x2, .int x3] : List Value).toArray) below meth c H5778 locsH5778 0 0 Q (F0 m 59 ls5779 []) := by
        intro nf
        induction nf with
        | zero =>
          intro V ls5779 H5778 locsH5778 x5781 x5782 hl5780 hTH5778 hSH5778 bx5781 bx5782 ex5782 cy5783_0 cy5783_1 cy5783_2 by5783_rw mfy5783 gy5783_CG gy5783_TU gy5783_WD gy5783_IM hm59 hV1 hV2 hV3
          exfalso
          omega
        | succ nf ih59 =>
          intro V ls5779 H5778 locsH5778 x5781 x5782 hl5780 hTH5778 hSH5778 bx5781 bx5782 ex5782 cy5783_0 cy5783_1 cy5783_2 by5783_rw mfy5783 gy5783_CG gy5783_TU gy5783_WD gy5783_IM hm59 hV1 hV2 hV3
          have cn0 := i_cl (x := x5774) (by omega)
          have hP : x2.toNatClampNeg ^ x5774.toNatClampNeg ≤ 1024 := pw_le (by have := i_cl (x := x2) (by omega); omega) (by have := i_cl (x := x5774) (by omega); omega)
          have J174 : ∀ (nf : Nat) (ls5785 : Array Slot) (H5784 : Heap) (locsH5784 : List Loc) (x5787 : Int32) (x5788 : Int32), lv_has ls5785 7 [(0, .ref a0), (1, .int x1), (4, .int x5774), (6, .int x5787)] → TY K G H5784 → va_S (AE G [112, 151, 141, 115, 152, 140, 139] s.heap.size) s.heap H5784 locsH5784 → (0 ≤ x5787.toInt ∧ x5787.toInt ≤ 5) → (0 ≤ x5788.toInt ∧ x5788.toInt ≤ 1024) → (x5788 = fI H5784 a0 (K.1.2 10 56)) → (slq = fR H5784 a0 (K.1.2 10 4)) → (rq = fR H5784 a0 (K.1.2 10 45)) → (sz = fI H5784 slq (x1 : Int32).toNatClampNeg) → (MF K s.heap H5784 a0 [56]) → (CG (avw K H5784 a0)) → (TU (avw K H5784 a0) (svw K H5784 a0)) → (WD (avw K H5784 a0)) → (IM (avw K H5784 a0)) → (5 - x5787.toInt < (nf : Int)) → W p l e ({ frames := 6, cells := 0, slots := 0, locals := 146 } : Room) s m (([.ref a0, .int x1, .int x2, .int x3] : List Value).toArray) below meth c H5784 locsH5784 0 0 Q (F0 m 174 ls5785 []) := by
            intro nf
            induction nf with
            | zero =>
              intro ls5785 H5784 locsH5784 x5787 x5788 hl5786 hTH5784 hSH5784 bx5787 bx5788 ex5788 cy5789_0 cy5789_1 cy5789_2 mfy5789 gy5789_CG gy5789_TU gy5789_WD gy5789_IM hm174
              exfalso
              omega
            | succ nf ih174 =>
              intro ls5785 H5784 locsH5784 x5787 x5788 hl5786 hTH5784 hSH5784 bx5787 bx5788 ex5788 cy5789_0 cy5789_1 cy5789_2 mfy5789 gy5789_CG gy5789_TU gy5789_WD gy5789_IM hm174
              refine lv_iload hx hb dX10_findsFits_174 (lv_at hl5786 3 rfl) ?_
              refine lv_iload hx hb dX10_findsFits_176 (lv_at hl5786 2 rfl) ?_
              refine lv_icmp_ge (tgt := 206) hx hb dX10_findsFits_178 (by decide) (fun c5790 => ?_) (fun c5790 => ?_)
              · have k5791 := i_le c5790
                exact x_vret C hQ dX10_findsFits_206 hSH5784 (by decide) (by decide) (⟨x5788, rfl, ex5788, cy5789_0, cy5789_1, gy5789_CG, gy5789_TU, gy5789_WD, gy5789_IM, mfy5789, hTH5784⟩)
              · have k5791 := i_nle c5790
                refine lv_aload_n hx hb dX10_findsFits_181 rfl (lv_at hl5786 0 rfl) ?_
                refine x_gr C hTH5784 (ci := 10) (k := 6) rfl inX10 (by decide) wF_X10_20 ga0 rg_112 rfl dX10_findsFits_182 (fun q5792 eq5792 gq5792 => ?_)
                refine lv_bipush (v := 16) hx hb dX10_findsFits_185 (by decide) ?_
                refine lv_iload_n hx hb dX10_findsFits_187 rfl (lv_at hl5786 1 rfl) ?_
                refine lv_imul hx hb dX10_findsFits_188 ?_
                refine lv_topi (fun x5793 ex5793 => ?_)
                have tx5793 := i_mul ex5793 (by rw [n_16]; omega)
                rw [n_16] at tx5793
                refine lv_iload hx hb dX10_findsFits_189 (lv_at hl5786 3 rfl) ?_
                refine lv_iadd hx hb dX10_findsFits_191 ?_
                refine lv_topi (fun x5794 ex5794 => ?_)
                have tx5794 := i_add ex5794 (by omega)
                refine lv_aload_n hx hb dX10_findsFits_192 rfl (lv_at hl5786 0 rfl) ?_
                refine x_gr C hTH5784 (ci := 10) (k := 55) rfl inX10 (by decide) wF_X10_131 ga0 rg_112 rfl dX10_findsFits_193 (fun q5795 eq5795 gq5795 => ?_)
                refine lv_iload hx hb dX10_findsFits_196 (lv_at hl5786 3 rfl) ?_
                refine x_ai C hTH5784 gq5795 rg_151 ⟨by omega, by show _ < ((5 : Nat) : Int); omega⟩ dX10_findsFits_198 (fun x5796 ex5796 bx5796 => ?_)
                refine x_iast C hTH5784 hSH5784 gq5792 rg_115 (by omega) (by show _ < ((160 : Nat) : Int); omega) ⟨by have := i_rng x5796; omega, by have := i_rng x5796; omega⟩ (AE_in gq5792 (by decide)) dX10_findsFits_199 (fun H5797 locsH5797 hTH5797 hSH5797 wH5797 => ?_)
                have mf5798 : MF K s.heap H5797 a0 [56] := MF.arr wH5797 (G_ne ga0 gq5792 (by decide)) mfy5789
                have g5799 : CG (avw K H5797 a0) := CG.congr (fun k hk j => av_arr hTH5784 ga0 wH5797 gq5792 (by decide) (CG_ok 115 (by decide) k hk)) gy5789_CG
                have g5800 : TU (avw K H5797 a0) (svw K H5797 a0) := TU.congr (fun k hk j => av_arr hTH5784 ga0 wH5797 gq5792 (by decide) (TU_ok 115 (by decide) k hk)) (fun k hk => sv_arr ga0 wH5797 gq5792 (by decide)) gy5789_TU
                have g5801 : WD (avw K H5797 a0) := WD.congr (fun k hk j => av_arr hTH5784 ga0 wH5797 gq5792 (by decide) (WD_ok 115 (by decide) k hk)) gy5789_WD
                have g5802 : IM (avw K H5797 a0) := IM.congr (fun k hk j => av_arr hTH5784 ga0 wH5797 gq5792 (by decide) (IM_ok 115 (by decide) k hk)) gy5789_IM
                have m5803 := ex5788.trans (Wr.neI wH5797 (Or.inl (G_ne ga0 gq5792 (by decide)))).symm
                have m5804 := cy5789_0.trans (Wr.neR wH5797 (Or.inl (G_ne ga0 gq5792 (by decide)))).symm
                have m5805 := cy5789_1.trans (Wr.neR wH5797 (Or.inl (G_ne ga0 gq5792 (by decide)))).symm
                have m5806 := cy5789_2.trans (Wr.neI wH5797 (Or.inl (G_ne gslq gq5792 (by decide)))).symm
                have m5807 := eq5792.trans (Wr.neR wH5797 (Or.inl (G_ne ga0 gq5792 (by decide)))).symm
                have m5808 := eq5795.trans (Wr.neR wH5797 (Or.inl (G_ne ga0 gq5792 (by decide)))).symm
                have m5809 := ex5796.trans (Wr.neI wH5797 (Or.inl (G_ne gq5795 gq5792 (by decide)))).symm
                have m5810 := Wr.I wH5797
                have m5810 := m5810.symm
                obtain ⟨x5811, ex5811⟩ : ∃ y : Int32, y = x5787 + 1 := ⟨_, rfl⟩
                have tx5811 := i_add ex5811 (by omega)
                refine lv_iinc (v := x5811) (lv' := [(6, .int x5811), (0, .ref a0), (1, .int x1), (4, .int x5774)]) hx hb dX10_findsFits_200 hl5786 (k := 3) rfl (by rw [ex5811]; rfl) (by decide) rfl (fun ls5812 hl5813 => ?_)
                refine lv_goto (tgt := 174) hx hb dX10_findsFits_203 (by decide) ?_
                exact ih174 ls5812 H5797 locsH5797 (x5811) (x5788) (lv_sub hl5813 [1, 2, 3, 0] rfl) hTH5797 hSH5797 (by have := i_rng x5811; omega) (by have := i_rng x5788; omega) m5803 m5804 m5805 m5806 mf5798 g5799 g5800 g5801 g5802 (by omega)
          have J67 : ∀ (nf : Nat) (ls5815 : Array Slot) (H5814 : Heap) (locsH5814 : List Loc) (x5817 : Int32) (x5818 : Int32), lv_has ls5815 7 [(0, .ref a0), (1, .int x1), (2, .int x2), (3, .int x3), (4, .int x5774), (6, .int x5817)] → TY K G H5814 → va_S (AE G [112, 151, 141, 115, 152, 140, 139] s.heap.size) s.heap H5814 locsH5814 → (0 ≤ x5817.toInt ∧ x5817.toInt ≤ 5) → (0 ≤ x5818.toInt ∧ x5818.toInt ≤ 1024) → (x5818 = fI H5814 a0 (K.1.2 10 56)) → (slq = fR H5814 a0 (K.1.2 10 4)) → (rq = fR H5814 a0 (K.1.2 10 45)) → (sz = fI H5814 slq (x1 : Int32).toNatClampNeg) → (AB H5814 rq (x5774.toNatClampNeg) (0) (x2.toInt - 1)) → (dval (fun j => fI H5814 rq j) (x2.toNatClampNeg) (x5774.toNatClampNeg) = V) → (MF K s.heap H5814 a0 [56]) → (CG (avw K H5814 a0)) → (TU (avw K H5814 a0) (svw K H5814 a0)) → (WD (avw K H5814 a0)) → (IM (avw K H5814 a0)) → (5 - x5817.toInt < (nf : Int)) → (x5818.toInt ≤ (V : Int) ∧ V ≤ 1023 ∧ 1 ≤ x5781.toInt) → W p l e ({ frames := 6, cells := 0, slots := 0, locals := 146 } : Room) s m (([.ref a0, .int x1, .int x2, .int x3] : List Value).toArray) below meth c H5814 locsH5814 0 0 Q (F0 m 67 ls5815 []) := by
            intro nf
            induction nf with
            | zero =>
              intro ls5815 H5814 locsH5814 x5817 x5818 hl5816 hTH5814 hSH5814 bx5817 bx5818 ex5818 cy5819_0 cy5819_1 cy5819_2 by5819_rw by5819_dv mfy5819 gy5819_CG gy5819_TU gy5819_WD gy5819_IM hm67 iv67
              exfalso
              omega
            | succ nf ih67 =>
              intro ls5815 H5814 locsH5814 x5817 x5818 hl5816 hTH5814 hSH5814 bx5817 bx5818 ex5818 cy5819_0 cy5819_1 cy5819_2 by5819_rw by5819_dv mfy5819 gy5819_CG gy5819_TU gy5819_WD gy5819_IM hm67 iv67
              have J159 : ∀ (ls5821 : Array Slot) (H5820 : Heap) (locsH5820 : List Loc) (x5823 : Int32), lv_has ls5821 7 [(0, .ref a0), (1, .int x1), (2, .int x2), (3, .int x3), (4, .int x5774)] → TY K G H5820 → va_S (AE G [112, 151, 141, 115, 152, 140, 139] s.heap.size) s.heap H5820 locsH5820 → (0 ≤ x5823.toInt ∧ x5823.toInt ≤ 1024) → (x5823 = fI H5820 a0 (K.1.2 10 56)) → (slq = fR H5820 a0 (K.1.2 10 4)) → (rq = fR H5820 a0 (K.1.2 10 45)) → (sz = fI H5820 slq (x1 : Int32).toNatClampNeg) → (AB H5820 rq (x5774.toNatClampNeg) (0) (x2.toInt - 1)) → (dval (fun j => fI H5820 rq j) (x2.toNatClampNeg) (x5774.toNatClampNeg) = V) → (MF K s.heap H5820 a0 [56]) → (CG (avw K H5820 a0)) → (TU (avw K H5820 a0) (svw K H5820 a0)) → (WD (avw K H5820 a0)) → (IM (avw K H5820 a0)) → (x5823.toInt ≤ (V : Int) + 1) → W p l e ({ frames := 6, cells := 0, slots := 0, locals := 146 } : Room) s m (([.ref a0, .int x1, .int x2, .int x3] : List Value).toArray) below meth c H5820 locsH5820 0 0 Q (F0 m 159 ls5821 []) := by
                intro ls5821 H5820 locsH5820 x5823 hl5822 hTH5820 hSH5820 bx5823 ex5823 cy5824_0 cy5824_1 cy5824_2 by5824_rw by5824_dv mfy5824 gy5824_CG gy5824_TU gy5824_WD gy5824_IM iv159
                refine lv_aload_n hx hb dX10_findsFits_159 rfl (lv_at hl5822 0 rfl) ?_
                refine lv_iload hx hb dX10_findsFits_160 (lv_at hl5822 4 rfl) ?_
                refine lv_iload_n hx hb dX10_findsFits_162 rfl (lv_at hl5822 2 rfl) ?_
                refine x_V (As := [.int x5774, .int x2]) (rest := []) C (a_X10_goesOn l K G H5820 (x5774) (x2) hTH5820 ga0 (by omega) (by omega) grq cy5824_1 (AB.weak by5824_rw (by omega) (by omega) (by omega))) yo_X10_goesOn wM_X10_368 ⟨⟨by decide, by decide⟩, by decide, by decide⟩ (x_rv C hTH5820 (ci := 10) rfl ga0 rg_112) rfl hl5822.1 rfl (Nat.le_of_ble_eq_true rfl) dX10_findsFits_163 hSH5820 (AE_sub (fun _ _ => rfl) (by decide) hSH5820.1) (fun vH5825 H5825 locsH5825 pH5825 zH5825 kH5825 hSH5825 => ?_)
                obtain ⟨x5826, hvH5825, bx5826, b5827, m5828, hTH5825⟩ := pH5825
                subst hvH5825
                have mf5829 : MF K s.heap H5825 a0 [56] := MF.eff (x_lt hTH5820 kH5825 ga0 (by decide)) mfy5824
                have g5830 : CG (avw K H5825 a0) := CG.congr (fun k hk j => av_eff hTH5820 kH5825 ga0 (by decide) (CG_eff [141] (by decide) k hk)) gy5824_CG
                have g5831 : TU (avw K H5825 a0) (svw K H5825 a0) := TU.congr (fun k hk j => av_eff hTH5820 kH5825 ga0 (by decide) (TU_eff [141] (by decide) k hk)) (fun k hk => sv_eff hTH5820 kH5825 ga0 (by decide)) gy5824_TU
                have g5832 : WD (avw K H5825 a0) := WD.congr (fun k hk j => av_eff hTH5820 kH5825 ga0 (by decide) (WD_eff [141] (by decide) k hk)) gy5824_WD
                have g5833 : IM (avw K H5825 a0) := IM.congr (fun k hk j => av_eff hTH5820 kH5825 ga0 (by decide) (IM_eff [141] (by decide) k hk)) gy5824_IM
                have m5834 := (ex5823).trans (fI_kept (x_lt hTH5820 kH5825 ga0 (by decide))).symm
                have m5835 := (cy5824_0).trans (fR_kept (x_lt hTH5820 kH5825 ga0 (by decide))).symm
                have m5836 := (cy5824_1).trans (fR_kept (x_lt hTH5820 kH5825 ga0 (by decide))).symm
                have m5837 := (cy5824_2).trans (fI_kept (x_lt hTH5820 kH5825 gslq (by decide))).symm
                refine W.eq (g2 := F0 m 166 ls5821 [.int x5826]) rfl ?_
                refine lv_istore (lv' := [(5, .int x5826), (0, .ref a0), (1, .int x1), (2, .int x2), (3, .int x3), (4, .int x5774)]) hx hb dX10_findsFits_166 hl5822 (by decide) rfl (fun ls5838 hl5839 => ?_)
                refine lv_goto (tgt := 59) hx hb dX10_findsFits_168 (by decide) ?_
                have cl_x5774 := i_cl (x := x5774) (by omega)
                have cg := i_cl (x := x5826) (by omega)
                have hlt := dval_lt (m := x2.toNatClampNeg) b5827 (by omega)
                have hgo := m5828
                have hdv := by5824_dv
                exact ih59 (V + x5826.toNatClampNeg) ls5838 H5825 locsH5825 (x5826) (x5823) (lv_sub hl5839 [1, 2, 3, 4, 5, 0] rfl) hTH5825 hSH5825 (by have := i_rng x5826; omega) (by have := i_rng x5823; omega) m5834 m5835 m5836 m5837 (AB.weak b5827 (by omega) (by omega) (by omega)) mf5829 g5830 g5831 g5832 g5833 (by omega) (by omega) (by omega) (by omega)
              have J113 : ∀ (nf : Nat) (ls5841 : Array Slot) (H5840 : Heap) (locsH5840 : List Loc) (x5843 : Int32) (x5844 : Int32), lv_has ls5841 7 [(0, .ref a0), (1, .int x1), (2, .int x2), (3, .int x3), (4, .int x5774), (6, .int x5843)] → TY K G H5840 → va_S (AE G [112, 151, 141, 115, 152, 140, 139] s.heap.size) s.heap H5840 locsH5840 → (0 ≤ x5843.toInt ∧ x5843.toInt ≤ 5) → (0 ≤ x5844.toInt ∧ x5844.toInt ≤ 1024) → (x5844 = fI H5840 a0 (K.1.2 10 56)) → (slq = fR H5840 a0 (K.1.2 10 4)) → (rq = fR H5840 a0 (K.1.2 10 45)) → (sz = fI H5840 slq (x1 : Int32).toNatClampNeg) → (AB H5840 rq (x5774.toNatClampNeg) (0) (x2.toInt - 1)) → (dval (fun j => fI H5840 rq j) (x2.toNatClampNeg) (x5774.toNatClampNeg) = V) → (MF K s.heap H5840 a0 [56]) → (CG (avw K H5840 a0)) → (TU (avw K H5840 a0) (svw K H5840 a0)) → (WD (avw K H5840 a0)) → (IM (avw K H5840 a0)) → (5 - x5843.toInt < (nf : Int)) → (x5844.toInt ≤ (V : Int) ∧ V ≤ 1023) → W p l e ({ frames := 6, cells := 0, slots := 0, locals := 146 } : Room) s m (([.ref a0, .int x1, .int x2, .int x3] : List Value).toArray) below meth c H5840 locsH5840 0 0 Q (F0 m 113 ls5841 []) := by
                intro nf
                induction nf with
                | zero =>
                  intro ls5841 H5840 locsH5840 x5843 x5844 hl5842 hTH5840 hSH5840 bx5843 bx5844 ex5844 cy5845_0 cy5845_1 cy5845_2 by5845_rw by5845_dv mfy5845 gy5845_CG gy5845_TU gy5845_WD gy5845_IM hm113 iv113
                  exfalso
                  omega
                | succ nf ih113 =>
                  intro ls5841 H5840 locsH5840 x5843 x5844 hl5842 hTH5840 hSH5840 bx5843 bx5844 ex5844 cy5845_0 cy5845_1 cy5845_2 by5845_rw by5845_dv mfy5845 gy5845_CG gy5845_TU gy5845_WD gy5845_IM hm113 iv113
                  refine lv_iload hx hb dX10_findsFits_113 (lv_at hl5842 5 rfl) ?_
                  refine lv_iload hx hb dX10_findsFits_115 (lv_at hl5842 4 rfl) ?_
                  refine lv_icmp_ge (tgt := 149) hx hb dX10_findsFits_117 (by decide) (fun c5846 => ?_) (fun c5846 => ?_)
                  · have k5847 := i_le c5846
                    refine lv_aload_n hx hb dX10_findsFits_149 rfl (lv_at hl5842 0 rfl) ?_
                    refine lv_aload_n hx hb dX10_findsFits_150 rfl (lv_at hl5842 0 rfl) ?_
                    refine x_gi C hTH5840 (ci := 10) (k := 56) rfl inX10 (by decide) wF_X10_378 ga0 rg_112 rfl dX10_findsFits_151 (fun x5848 ex5848 bx5848 => ?_)
                    have ux5848 : x5844 = x5848 := (ex5844).trans ex5848.symm
                    subst ux5848
                    refine lv_iconst (v := 1) hx hb dX10_findsFits_154 (by decide) ?_
                    refine lv_iadd hx hb dX10_findsFits_155 ?_
                    refine lv_topi (fun x5849 ex5849 => ?_)
                    have tx5849 := i_add ex5849 (by omega)
                    have fz5851 : 0 ≤ x5849.toInt ∧ x5849.toInt ≤ 1024 := by have := i_rng x5849; omega
                    refine x_put C hTH5840 hSH5840 (ci := 10) (k := 56) (v := .int x5849) (ty0 := tyX10) rfl inX10 tyX10_ok nmX10 (by decide) rfl wF_X10_378 ga0 rg_112 rfl rfl (okI (by have := i_rng x5849; omega) (by have := i_rng x5849; omega)) rfl rfl (AE_in ga0 (by decide)) dX10_findsFits_156 (fun H5850 locsH5850 hTH5850 hSH5850 wH5850 => ?_)
                    have mf5852 : MF K s.heap H5850 a0 [56] := MF.fld hap wH5850 (by decide) (by decide) mfy5845
                    have g5853 : CG (avw K H5850 a0) := CG.congr (fun k hk j => av_fld hTH5840 ga0 hap wH5850 (by decide) (CG_ok 112 (by decide) k hk) (CG_ne 56 (by decide) k hk)) gy5845_CG
                    have g5854 : TU (avw K H5850 a0) (svw K H5850 a0) := TU.congr (fun k hk j => av_fld hTH5840 ga0 hap wH5850 (by decide) (TU_ok 112 (by decide) k hk) (TU_ne 56 (by decide) k hk)) (fun k hk => sv_fld hap wH5850 (by decide) (TU_slt k hk) (TU_sne 56 (by decide) k hk)) gy5845_TU
                    have g5855 : WD (avw K H5850 a0) := WD.congr (fun k hk j => av_fld hTH5840 ga0 hap wH5850 (by decide) (WD_ok 112 (by decide) k hk) (WD_ne 56 (by decide) k hk)) gy5845_WD
                    have g5856 : IM (avw K H5850 a0) := IM.congr (fun k hk j => av_fld hTH5840 ga0 hap wH5850 (by decide) (IM_ok 112 (by decide) k hk) (IM_ne 56 (by decide) k hk)) gy5845_IM
                    have b5857 : AB H5850 rq (x5774.toNatClampNeg) (0) (x2.toInt - 1) := AB.kept (fun j => Wr.neI wH5850 (Or.inl (G_ne grq ga0 (by decide)))) by5845_rw
                    have b5858 : dval (fun j => fI H5850 rq j) (x2.toNatClampNeg) (x5774.toNatClampNeg) = V := (dval_congr (fun j => Wr.neI wH5850 (Or.inl (G_ne grq ga0 (by decide))))).trans by5845_dv
                    have m5860 := cy5845_0.trans (Wr.neR wH5850 (Or.inr (x_apart hKT hts inX10 tyX10 tyX10_ok nmX10 rfl 4 56 (by decide) (by decide) (by decide)))).symm
                    have m5861 := cy5845_1.trans (Wr.neR wH5850 (Or.inr (x_apart hKT hts inX10 tyX10 tyX10_ok nmX10 rfl 45 56 (by decide) (by decide) (by decide)))).symm
                    have m5862 := cy5845_2.trans (Wr.neI wH5850 (Or.inl (G_ne gslq ga0 (by decide)))).symm
                    have m5863 := Wr.I wH5850
                    have m5863 := m5863.symm
                    have cl_x5774 := i_cl (x := x5774) (by omega)
                    have cl_x2 := i_cl (x := x2) (by omega)
                    have cl_x5774 := i_cl (x := x5774) (by omega)
                    exact J159 ls5841 H5850 locsH5850 (x5849) (lv_sub hl5842 [0, 1, 2, 3, 4] rfl) hTH5850 hSH5850 (by have := i_rng x5849; omega) m5863 m5860 m5861 m5862 (AB.weak b5857 (by omega) (by omega) (by omega)) (b5858.trans (by omega)) mf5852 g5853 g5854 g5855 g5856 (by omega)
                  · have k5847 := i_nle c5846
                    refine lv_aload_n hx hb dX10_findsFits_120 rfl (lv_at hl5842 0 rfl) ?_
                    refine x_gr C hTH5840 (ci := 10) (k := 57) rfl inX10 (by decide) wF_X10_134 ga0 rg_112 rfl dX10_findsFits_121 (fun q5864 eq5864 gq5864 => ?_)
                    refine lv_iconst (v := 5) hx hb dX10_findsFits_124 (by decide) ?_
                    refine lv_aload_n hx hb dX10_findsFits_125 rfl (lv_at hl5842 0 rfl) ?_
                    refine x_gi C hTH5840 (ci := 10) (k := 56) rfl inX10 (by decide) wF_X10_378 ga0 rg_112 rfl dX10_findsFits_126 (fun x5865 ex5865 bx5865 => ?_)
                    have ux5865 : x5844 = x5865 := (ex5844).trans ex5865.symm
                    subst ux5865
                    refine lv_imul hx hb dX10_findsFits_129 ?_
                    refine lv_topi (fun x5866 ex5866 => ?_)
                    have tx5866 := i_mul ex5866 (by rw [n_5]; omega)
                    rw [n_5] at tx5866
                    refine lv_iload hx hb dX10_findsFits_130 (lv_at hl5842 5 rfl) ?_
                    refine lv_iadd hx hb dX10_findsFits_132 ?_
                    refine lv_topi (fun x5867 ex5867 => ?_)
                    have tx5867 := i_add ex5867 (by omega)
                    refine lv_aload_n hx hb dX10_findsFits_133 rfl (lv_at hl5842 0 rfl) ?_
                    refine x_gr C hTH5840 (ci := 10) (k := 45) rfl inX10 (by decide) wF_X10_101 ga0 rg_112 rfl dX10_findsFits_134 (fun q5868 eq5868 gq5868 => ?_)
                    have uq5868 : rq = q5868 := (cy5845_1).trans eq5868.symm
                    subst uq5868
                    refine lv_iload hx hb dX10_findsFits_137 (lv_at hl5842 5 rfl) ?_
                    refine x_ai C hTH5840 grq rg_141 ⟨by omega, by show _ < ((5 : Nat) : Int); omega⟩ dX10_findsFits_139 (fun x5869 ex5869 bx5869 => ?_)
                    have clx5869 := i_cl (x := x5843) (by omega)
                    have abx5869 := (by5845_rw).at ex5869 (by omega)
                    refine lv_iconst (v := 1) hx hb dX10_findsFits_140 (by decide) ?_
                    refine lv_iadd hx hb dX10_findsFits_141 ?_
                    refine lv_topi (fun x5870 ex5870 => ?_)
                    have tx5870 := i_add ex5870 (by omega)
                    refine x_iast C hTH5840 hSH5840 gq5864 rg_152 (by omega) (by show _ < ((5120 : Nat) : Int); omega) ⟨by have := i_rng x5870; omega, by have := i_rng x5870; omega⟩ (AE_in gq5864 (by decide)) dX10_findsFits_142 (fun H5871 locsH5871 hTH5871 hSH5871 wH5871 => ?_)
                    have mf5872 : MF K s.heap H5871 a0 [56] := MF.arr wH5871 (G_ne ga0 gq5864 (by decide)) mfy5845
                    have g5873 : CG (avw K H5871 a0) := CG.congr (fun k hk j => av_arr hTH5840 ga0 wH5871 gq5864 (by decide) (CG_ok 152 (by decide) k hk)) gy5845_CG
                    have g5874 : TU (avw K H5871 a0) (svw K H5871 a0) := TU.congr (fun k hk j => av_arr hTH5840 ga0 wH5871 gq5864 (by decide) (TU_ok 152 (by decide) k hk)) (fun k hk => sv_arr ga0 wH5871 gq5864 (by decide)) gy5845_TU
                    have g5875 : WD (avw K H5871 a0) := WD.congr (fun k hk j => av_arr hTH5840 ga0 wH5871 gq5864 (by decide) (WD_ok 152 (by decide) k hk)) gy5845_WD
                    have g5876 : IM (avw K H5871 a0) := IM.congr (fun k hk j => av_arr hTH5840 ga0 wH5871 gq5864 (by decide) (IM_ok 152 (by decide) k hk)) gy5845_IM
                    have b5877 : AB H5871 rq (x5774.toNatClampNeg) (0) (x2.toInt - 1) := AB.kept (fun j => Wr.neI wH5871 (Or.inl (G_ne grq gq5864 (by decide)))) by5845_rw
                    have b5878 : dval (fun j => fI H5871 rq j) (x2.toNatClampNeg) (x5774.toNatClampNeg) = V := (dval_congr (fun j => Wr.neI wH5871 (Or.inl (G_ne grq gq5864 (by decide))))).trans by5845_dv
                    have m5879 := ex5844.trans (Wr.neI wH5871 (Or.inl (G_ne ga0 gq5864 (by decide)))).symm
                    have m5880 := cy5845_0.trans (Wr.neR wH5871 (Or.inl (G_ne ga0 gq5864 (by decide)))).symm
                    have m5881 := cy5845_1.trans (Wr.neR wH5871 (Or.inl (G_ne ga0 gq5864 (by decide)))).symm
                    have m5882 := cy5845_2.trans (Wr.neI wH5871 (Or.inl (G_ne gslq gq5864 (by decide)))).symm
                    have m5883 := eq5864.trans (Wr.neR wH5871 (Or.inl (G_ne ga0 gq5864 (by decide)))).symm
                    have m5884 := ex5869.trans (Wr.neI wH5871 (Or.inl (G_ne grq gq5864 (by decide)))).symm
                    have m5885 := Wr.I wH5871
                    have m5885 := m5885.symm
                    obtain ⟨x5886, ex5886⟩ : ∃ y : Int32, y = x5843 + 1 := ⟨_, rfl⟩
                    have tx5886 := i_add ex5886 (by omega)
                    refine lv_iinc (v := x5886) (lv' := [(6, .int x5886), (0, .ref a0), (1, .int x1), (2, .int x2), (3, .int x3), (4, .int x5774)]) hx hb dX10_findsFits_143 hl5842 (k := 5) rfl (by rw [ex5886]; rfl) (by decide) rfl (fun ls5887 hl5888 => ?_)
                    refine lv_goto (tgt := 113) hx hb dX10_findsFits_146 (by decide) ?_
                    have cl_x5774 := i_cl (x := x5774) (by omega)
                    have cl_x2 := i_cl (x := x2) (by omega)
                    have cl_x5774 := i_cl (x := x5774) (by omega)
                    exact ih113 ls5887 H5871 locsH5871 (x5886) (x5844) (lv_sub hl5888 [1, 2, 3, 4, 5, 0] rfl) hTH5871 hSH5871 (by have := i_rng x5886; omega) (by have := i_rng x5844; omega) m5879 m5880 m5881 m5882 (AB.weak b5877 (by omega) (by omega) (by omega)) (b5878.trans (by omega)) mf5872 g5873 g5874 g5875 g5876 (by omega) (by omega)
              refine lv_iload hx hb dX10_findsFits_67 (lv_at hl5816 5 rfl) ?_
              refine lv_iload hx hb dX10_findsFits_69 (lv_at hl5816 4 rfl) ?_
              refine lv_icmp_ge (tgt := 101) hx hb dX10_findsFits_71 (by decide) (fun c5889 => ?_) (fun c5889 => ?_)
              · have k5890 := i_le c5889
                refine lv_aload_n hx hb dX10_findsFits_101 rfl (lv_at hl5816 0 rfl) ?_
                refine lv_iload_n hx hb dX10_findsFits_102 rfl (lv_at hl5816 1 rfl) ?_
                refine lv_iload_n hx hb dX10_findsFits_103 rfl (lv_at hl5816 3 rfl) ?_
                refine x_V (As := [.int x1, .int x3]) (rest := []) C (a_X10_fitsAll l K G H5814 (x1) (x3) hTH5814 ga0 (by omega) gy5819_CG) yo_X10_fitsAll wM_X10_381 ⟨⟨by decide, by decide⟩, by decide, by decide⟩ (x_rv C hTH5814 (ci := 10) rfl ga0 rg_112) rfl hl5816.1 rfl (Nat.le_of_ble_eq_true rfl) dX10_findsFits_104 hSH5814 (AE_sub (fun _ _ => rfl) (by decide) hSH5814.1) (fun vH5891 H5891 locsH5891 pH5891 zH5891 kH5891 hSH5891 => ?_)
                obtain ⟨x5892, hvH5891, bx5892, hTH5891⟩ := pH5891
                subst hvH5891
                have mf5893 : MF K s.heap H5891 a0 [56] := MF.eff (x_lt hTH5814 kH5891 ga0 (by decide)) mfy5819
                have b5894 : AB H5891 rq (x5774.toNatClampNeg) (0) (x2.toInt - 1) := AB.kept (fun j => fI_kept (x_lt hTH5814 kH5891 grq (by decide))) by5819_rw
                have b5895 : dval (fun j => fI H5891 rq j) (x2.toNatClampNeg) (x5774.toNatClampNeg) = V := (dval_congr (fun j => fI_kept (x_lt hTH5814 kH5891 grq (by decide)))).trans by5819_dv
                have g5896 : CG (avw K H5891 a0) := CG.congr (fun k hk j => av_eff hTH5814 kH5891 ga0 (by decide) (CG_eff [140, 139] (by decide) k hk)) gy5819_CG
                have g5897 : TU (avw K H5891 a0) (svw K H5891 a0) := TU.congr (fun k hk j => av_eff hTH5814 kH5891 ga0 (by decide) (TU_eff [140, 139] (by decide) k hk)) (fun k hk => sv_eff hTH5814 kH5891 ga0 (by decide)) gy5819_TU
                have g5898 : WD (avw K H5891 a0) := WD.congr (fun k hk j => av_eff hTH5814 kH5891 ga0 (by decide) (WD_eff [140, 139] (by decide) k hk)) gy5819_WD
                have g5899 : IM (avw K H5891 a0) := IM.congr (fun k hk j => av_eff hTH5814 kH5891 ga0 (by decide) (IM_eff [140, 139] (by decide) k hk)) gy5819_IM
                have m5900 := (ex5818).trans (fI_kept (x_lt hTH5814 kH5891 ga0 (by decide))).symm
                have m5901 := (cy5819_0).trans (fR_kept (x_lt hTH5814 kH5891 ga0 (by decide))).symm
                have m5902 := (cy5819_1).trans (fR_kept (x_lt hTH5814 kH5891 ga0 (by decide))).symm
                have m5903 := (cy5819_2).trans (fI_kept (x_lt hTH5814 kH5891 gslq (by decide))).symm
                refine W.eq (g2 := F0 m 107 ls5815 [.int x5892]) rfl ?_
                refine lv_if_eq (tgt := 159) hx hb dX10_findsFits_107 (by decide) (fun c5904 => ?_) (fun c5904 => ?_)
                · have k5905 := i_eq c5904
                  have cl_x5774 := i_cl (x := x5774) (by omega)
                  have cl_x2 := i_cl (x := x2) (by omega)
                  have cl_x5774 := i_cl (x := x5774) (by omega)
                  exact J159 ls5815 H5891 locsH5891 (x5818) (lv_sub hl5816 [0, 1, 2, 3, 4] rfl) hTH5891 hSH5891 (by have := i_rng x5818; omega) m5900 m5901 m5902 m5903 (AB.weak b5894 (by omega) (by omega) (by omega)) (b5895.trans (by omega)) mf5893 g5896 g5897 g5898 g5899 (by omega)
                · have k5905 := i_ne c5904
                  refine lv_iconst (v := 0) hx hb dX10_findsFits_110 (by decide) ?_
                  refine lv_istore (lv' := [(6, .int 0), (0, .ref a0), (1, .int x1), (2, .int x2), (3, .int x3), (4, .int x5774)]) hx hb dX10_findsFits_111 hl5816 (by decide) rfl (fun ls5906 hl5907 => ?_)
                  have cl_x5774 := i_cl (x := x5774) (by omega)
                  have cl_x2 := i_cl (x := x2) (by omega)
                  have cl_x5774 := i_cl (x := x5774) (by omega)
                  exact J113 ((5 - (0 : Int32).toInt).toNat + 1) ls5906 H5891 locsH5891 (0) (x5818) (lv_sub hl5907 [1, 2, 3, 4, 5, 0] rfl) hTH5891 hSH5891 (by decide) (by have := i_rng x5818; omega) m5900 m5901 m5902 m5903 (AB.weak b5894 (by omega) (by omega) (by omega)) (b5895.trans (by omega)) mf5893 g5896 g5897 g5898 g5899 (by omega) (by omega)
              · have k5890 := i_nle c5889
                refine lv_aload_n hx hb dX10_findsFits_74 rfl (lv_at hl5816 0 rfl) ?_
                refine x_gr C hTH5814 (ci := 10) (k := 6) rfl inX10 (by decide) wF_X10_20 ga0 rg_112 rfl dX10_findsFits_75 (fun q5908 eq5908 gq5908 => ?_)
                refine lv_bipush (v := 16) hx hb dX10_findsFits_78 (by decide) ?_
                refine lv_iload_n hx hb dX10_findsFits_80 rfl (lv_at hl5816 1 rfl) ?_
                refine lv_imul hx hb dX10_findsFits_81 ?_
                refine lv_topi (fun x5909 ex5909 => ?_)
                have tx5909 := i_mul ex5909 (by rw [n_16]; omega)
                rw [n_16] at tx5909
                refine lv_iload hx hb dX10_findsFits_82 (lv_at hl5816 5 rfl) ?_
                refine lv_iadd hx hb dX10_findsFits_84 ?_
                refine lv_topi (fun x5910 ex5910 => ?_)
                have tx5910 := i_add ex5910 (by omega)
                refine lv_aload_n hx hb dX10_findsFits_85 rfl (lv_at hl5816 0 rfl) ?_
                refine x_gr C hTH5814 (ci := 10) (k := 45) rfl inX10 (by decide) wF_X10_101 ga0 rg_112 rfl dX10_findsFits_86 (fun q5911 eq5911 gq5911 => ?_)
                have uq5911 : rq = q5911 := (cy5819_1).trans eq5911.symm
                subst uq5911
                refine lv_iload hx hb dX10_findsFits_89 (lv_at hl5816 5 rfl) ?_
                refine x_ai C hTH5814 grq rg_141 ⟨by omega, by show _ < ((5 : Nat) : Int); omega⟩ dX10_findsFits_91 (fun x5912 ex5912 bx5912 => ?_)
                have clx5912 := i_cl (x := x5817) (by omega)
                have abx5912 := (by5819_rw).at ex5912 (by omega)
                refine lv_iconst (v := 1) hx hb dX10_findsFits_92 (by decide) ?_
                refine lv_iadd hx hb dX10_findsFits_93 ?_
                refine lv_topi (fun x5913 ex5913 => ?_)
                have tx5913 := i_add ex5913 (by omega)
                refine x_iast C hTH5814 hSH5814 gq5908 rg_115 (by omega) (by show _ < ((160 : Nat) : Int); omega) ⟨by have := i_rng x5913; omega, by have := i_rng x5913; omega⟩ (AE_in gq5908 (by decide)) dX10_findsFits_94 (fun H5914 locsH5914 hTH5914 hSH5914 wH5914 => ?_)
                have mf5915 : MF K s.heap H5914 a0 [56] := MF.arr wH5914 (G_ne ga0 gq5908 (by decide)) mfy5819
                have g5916 : CG (avw K H5914 a0) := CG.congr (fun k hk j => av_arr hTH5814 ga0 wH5914 gq5908 (by decide) (CG_ok 115 (by decide) k hk)) gy5819_CG
                have g5917 : TU (avw K H5914 a0) (svw K H5914 a0) := TU.congr (fun k hk j => av_arr hTH5814 ga0 wH5914 gq5908 (by decide) (TU_ok 115 (by decide) k hk)) (fun k hk => sv_arr ga0 wH5914 gq5908 (by decide)) gy5819_TU
                have g5918 : WD (avw K H5914 a0) := WD.congr (fun k hk j => av_arr hTH5814 ga0 wH5914 gq5908 (by decide) (WD_ok 115 (by decide) k hk)) gy5819_WD
                have g5919 : IM (avw K H5914 a0) := IM.congr (fun k hk j => av_arr hTH5814 ga0 wH5914 gq5908 (by decide) (IM_ok 115 (by decide) k hk)) gy5819_IM
                have b5920 : AB H5914 rq (x5774.toNatClampNeg) (0) (x2.toInt - 1) := AB.kept (fun j => Wr.neI wH5914 (Or.inl (G_ne grq gq5908 (by decide)))) by5819_rw
                have b5921 : dval (fun j => fI H5914 rq j) (x2.toNatClampNeg) (x5774.toNatClampNeg) = V := (dval_congr (fun j => Wr.neI wH5914 (Or.inl (G_ne grq gq5908 (by decide))))).trans by5819_dv
                have m5922 := ex5818.trans (Wr.neI wH5914 (Or.inl (G_ne ga0 gq5908 (by decide)))).symm
                have m5923 := cy5819_0.trans (Wr.neR wH5914 (Or.inl (G_ne ga0 gq5908 (by decide)))).symm
                have m5924 := cy5819_1.trans (Wr.neR wH5914 (Or.inl (G_ne ga0 gq5908 (by decide)))).symm
                have m5925 := cy5819_2.trans (Wr.neI wH5914 (Or.inl (G_ne gslq gq5908 (by decide)))).symm
                have m5926 := eq5908.trans (Wr.neR wH5914 (Or.inl (G_ne ga0 gq5908 (by decide)))).symm
                have m5927 := ex5912.trans (Wr.neI wH5914 (Or.inl (G_ne grq gq5908 (by decide)))).symm
                have m5928 := Wr.I wH5914
                have m5928 := m5928.symm
                obtain ⟨x5929, ex5929⟩ : ∃ y : Int32, y = x5817 + 1 := ⟨_, rfl⟩
                have tx5929 := i_add ex5929 (by omega)
                refine lv_iinc (v := x5929) (lv' := [(6, .int x5929), (0, .ref a0), (1, .int x1), (2, .int x2), (3, .int x3), (4, .int x5774)]) hx hb dX10_findsFits_95 hl5816 (k := 5) rfl (by rw [ex5929]; rfl) (by decide) rfl (fun ls5930 hl5931 => ?_)
                refine lv_goto (tgt := 67) hx hb dX10_findsFits_98 (by decide) ?_
                have cl_x5774 := i_cl (x := x5774) (by omega)
                have cl_x2 := i_cl (x := x2) (by omega)
                have cl_x5774 := i_cl (x := x5774) (by omega)
                exact ih67 ls5930 H5914 locsH5914 (x5929) (x5818) (lv_sub hl5931 [1, 2, 3, 4, 5, 0] rfl) hTH5914 hSH5914 (by have := i_rng x5929; omega) (by have := i_rng x5818; omega) m5922 m5923 m5924 m5925 (AB.weak b5920 (by omega) (by omega) (by omega)) (b5921.trans (by omega)) mf5915 g5916 g5917 g5918 g5919 (by omega) (by omega)
          refine lv_iload hx hb dX10_findsFits_59 (lv_at hl5780 5 rfl) ?_
          refine lv_if_eq (tgt := 171) hx hb dX10_findsFits_61 (by decide) (fun c5932 => ?_) (fun c5932 => ?_)
          · have k5933 := i_eq c5932
            refine lv_iconst (v := 0) hx hb dX10_findsFits_171 (by decide) ?_
            refine lv_istore (lv' := [(6, .int 0), (0, .ref a0), (1, .int x1), (2, .int x2), (3, .int x3), (4, .int x5774), (5, .int x5781)]) hx hb dX10_findsFits_172 hl5780 (by decide) rfl (fun ls5934 hl5935 => ?_)
            exact J174 ((5 - (0 : Int32).toInt).toNat + 1) ls5934 H5778 locsH5778 (0) (x5782) (lv_sub hl5935 [1, 2, 5, 0] rfl) hTH5778 hSH5778 (by decide) (by have := i_rng x5782; omega) ex5782 cy5783_0 cy5783_1 cy5783_2 mfy5783 gy5783_CG gy5783_TU gy5783_WD gy5783_IM (by omega)
          · have k5933 := i_ne c5932
            have hv : dval (fun j => fI H5778 rq j) x2.toNatClampNeg x5774.toNatClampNeg = V := by omega
            have cm0 := i_cl (x := x2) (by omega)
            have hVP := dval_lt (m := x2.toNatClampNeg) by5783_rw (by omega)
            refine lv_iconst (v := 0) hx hb dX10_findsFits_64 (by decide) ?_
            refine lv_istore (lv' := [(6, .int 0), (0, .ref a0), (1, .int x1), (2, .int x2), (3, .int x3), (4, .int x5774), (5, .int x5781)]) hx hb dX10_findsFits_65 hl5780 (by decide) rfl (fun ls5936 hl5937 => ?_)
            have cl_x5774 := i_cl (x := x5774) (by omega)
            have cl_x2 := i_cl (x := x2) (by omega)
            have cl_x5774 := i_cl (x := x5774) (by omega)
            exact J67 ((5 - (0 : Int32).toInt).toNat + 1) ls5936 H5778 locsH5778 (0) (x5782) (lv_sub hl5937 [1, 2, 3, 4, 5, 0] rfl) hTH5778 hSH5778 (by decide) (by have := i_rng x5782; omega) ex5782 cy5783_0 cy5783_1 cy5783_2 (AB.weak by5783_rw (by omega) (by omega) (by omega)) (hv.trans (by omega)) mfy5783 gy5783_CG gy5783_TU gy5783_WD gy5783_IM (by omega) (by omega)
      refine lv_iload hx hb dX10_findsFits_11 (lv_at hl5773 5 rfl) ?_
      refine lv_iload hx hb dX10_findsFits_13 (lv_at hl5773 4 rfl) ?_
      refine lv_icmp_ge (tgt := 51) hx hb dX10_findsFits_15 (by decide) (fun c5938 => ?_) (fun c5938 => ?_)
      · have k5939 := i_le c5938
        refine lv_aload_n hx hb dX10_findsFits_51 rfl (lv_at hl5773 0 rfl) ?_
        refine lv_iconst (v := 0) hx hb dX10_findsFits_52 (by decide) ?_
        refine x_put C hTH5771 hSH5771 (ci := 10) (k := 56) (v := .int 0) (ty0 := tyX10) rfl inX10 tyX10_ok nmX10 (by decide) rfl wF_X10_378 ga0 rg_112 rfl rfl (okI (by have := i_rng (0 : Int32); omega) (by have := i_rng (0 : Int32); omega)) rfl rfl (AE_in ga0 (by decide)) dX10_findsFits_53 (fun H5940 locsH5940 hTH5940 hSH5940 wH5940 => ?_)
        have mf5941 : MF K s.heap H5940 a0 [56] := MF.fld hap wH5940 (by decide) (by decide) mfy5777
        have g5942 : CG (avw K H5940 a0) := CG.congr (fun k hk j => av_fld hTH5771 ga0 hap wH5940 (by decide) (CG_ok 112 (by decide) k hk) (CG_ne 56 (by decide) k hk)) gy5777_CG
        have g5943 : TU (avw K H5940 a0) (svw K H5940 a0) := TU.congr (fun k hk j => av_fld hTH5771 ga0 hap wH5940 (by decide) (TU_ok 112 (by decide) k hk) (TU_ne 56 (by decide) k hk)) (fun k hk => sv_fld hap wH5940 (by decide) (TU_slt k hk) (TU_sne 56 (by decide) k hk)) gy5777_TU
        have g5944 : WD (avw K H5940 a0) := WD.congr (fun k hk j => av_fld hTH5771 ga0 hap wH5940 (by decide) (WD_ok 112 (by decide) k hk) (WD_ne 56 (by decide) k hk)) gy5777_WD
        have g5945 : IM (avw K H5940 a0) := IM.congr (fun k hk j => av_fld hTH5771 ga0 hap wH5940 (by decide) (IM_ok 112 (by decide) k hk) (IM_ne 56 (by decide) k hk)) gy5777_IM
        have b5946 : AB H5940 rq (x5775.toNatClampNeg) (0) (0) := AB.kept (fun j => Wr.neI wH5940 (Or.inl (G_ne grq ga0 (by decide)))) by5777_rw
        have m5948 := cy5777_0.trans (Wr.neR wH5940 (Or.inr (x_apart hKT hts inX10 tyX10 tyX10_ok nmX10 rfl 4 56 (by decide) (by decide) (by decide)))).symm
        have m5949 := cy5777_1.trans (Wr.neR wH5940 (Or.inr (x_apart hKT hts inX10 tyX10 tyX10_ok nmX10 rfl 45 56 (by decide) (by decide) (by decide)))).symm
        have m5950 := cy5777_2.trans (Wr.neI wH5940 (Or.inl (G_ne gslq ga0 (by decide)))).symm
        have m5951 := Wr.I wH5940
        refine lv_iconst (v := 1) hx hb dX10_findsFits_56 (by decide) ?_
        refine lv_istore (lv' := [(5, .int 1), (0, .ref a0), (1, .int x1), (2, .int x2), (3, .int x3), (4, .int x5774)]) hx hb dX10_findsFits_57 hl5773 (by decide) rfl (fun ls5952 hl5953 => ?_)
        have cl_x5774 := i_cl (x := x5774) (by omega)
        have cl_x5775 := i_cl (x := x5775) (by omega)
        have cl0_x5774 := i_cl (x := x5774) (by omega)
        have cl0_x5775 := i_cl (x := x5775) (by omega)
        exact J59 ((((x2.toNatClampNeg ^ x5774.toNatClampNeg : Nat) : Int) - ((0 : Nat) : Int) + (1 : Int32).toInt).toNat + 1) (0 : Nat) ls5952 H5940 locsH5940 (1) (0) (lv_sub hl5953 [1, 2, 3, 4, 5, 0] rfl) hTH5940 hSH5940 (by decide) (by decide) (m5951).symm m5948 m5949 m5950 (AB.weak b5946 (by omega) (by omega) (by omega)) mf5941 g5942 g5943 g5944 g5945 (by omega) (Or.inr (dval_zero (AB.weak b5946 (by omega) (by omega) (by omega)))) (Nat.zero_le _) (Or.inl (by show (0 : Int32).toInt ≤ 0; decide))
      · have k5939 := i_nle c5938
        refine lv_aload_n hx hb dX10_findsFits_18 rfl (lv_at hl5773 0 rfl) ?_
        refine x_gr C hTH5771 (ci := 10) (k := 55) rfl inX10 (by decide) wF_X10_131 ga0 rg_112 rfl dX10_findsFits_19 (fun q5954 eq5954 gq5954 => ?_)
        refine lv_iload hx hb dX10_findsFits_22 (lv_at hl5773 5 rfl) ?_
        refine lv_aload_n hx hb dX10_findsFits_24 rfl (lv_at hl5773 0 rfl) ?_
        refine x_gr C hTH5771 (ci := 10) (k := 6) rfl inX10 (by decide) wF_X10_20 ga0 rg_112 rfl dX10_findsFits_25 (fun q5955 eq5955 gq5955 => ?_)
        refine lv_bipush (v := 16) hx hb dX10_findsFits_28 (by decide) ?_
        refine lv_iload_n hx hb dX10_findsFits_30 rfl (lv_at hl5773 1 rfl) ?_
        refine lv_imul hx hb dX10_findsFits_31 ?_
        refine lv_topi (fun x5956 ex5956 => ?_)
        have tx5956 := i_mul ex5956 (by rw [n_16]; omega)
        rw [n_16] at tx5956
        refine lv_iload hx hb dX10_findsFits_32 (lv_at hl5773 5 rfl) ?_
        refine lv_iadd hx hb dX10_findsFits_34 ?_
        refine lv_topi (fun x5957 ex5957 => ?_)
        have tx5957 := i_add ex5957 (by omega)
        refine x_ai C hTH5771 gq5955 rg_115 ⟨by omega, by show _ < ((160 : Nat) : Int); omega⟩ dX10_findsFits_35 (fun x5958 ex5958 bx5958 => ?_)
        refine x_iast C hTH5771 hSH5771 gq5954 rg_151 (by omega) (by show _ < ((5 : Nat) : Int); omega) ⟨by have := i_rng x5958; omega, by have := i_rng x5958; omega⟩ (AE_in gq5954 (by decide)) dX10_findsFits_36 (fun H5959 locsH5959 hTH5959 hSH5959 wH5959 => ?_)
        have mf5960 : MF K s.heap H5959 a0 [56] := MF.arr wH5959 (G_ne ga0 gq5954 (by decide)) mfy5777
        have g5961 : CG (avw K H5959 a0) := CG.congr (fun k hk j => av_arr hTH5771 ga0 wH5959 gq5954 (by decide) (CG_ok 151 (by decide) k hk)) gy5777_CG
        have g5962 : TU (avw K H5959 a0) (svw K H5959 a0) := TU.congr (fun k hk j => av_arr hTH5771 ga0 wH5959 gq5954 (by decide) (TU_ok 151 (by decide) k hk)) (fun k hk => sv_arr ga0 wH5959 gq5954 (by decide)) gy5777_TU
        have g5963 : WD (avw K H5959 a0) := WD.congr (fun k hk j => av_arr hTH5771 ga0 wH5959 gq5954 (by decide) (WD_ok 151 (by decide) k hk)) gy5777_WD
        have g5964 : IM (avw K H5959 a0) := IM.congr (fun k hk j => av_arr hTH5771 ga0 wH5959 gq5954 (by decide) (IM_ok 151 (by decide) k hk)) gy5777_IM
        have b5965 : AB H5959 rq (x5775.toNatClampNeg) (0) (0) := AB.kept (fun j => Wr.neI wH5959 (Or.inl (G_ne grq gq5954 (by decide)))) by5777_rw
        have m5966 := ex5776.trans (Wr.neI wH5959 (Or.inl (G_ne ga0 gq5954 (by decide)))).symm
        have m5967 := cy5777_0.trans (Wr.neR wH5959 (Or.inl (G_ne ga0 gq5954 (by decide)))).symm
        have m5968 := cy5777_1.trans (Wr.neR wH5959 (Or.inl (G_ne ga0 gq5954 (by decide)))).symm
        have m5969 := cy5777_2.trans (Wr.neI wH5959 (Or.inl (G_ne gslq gq5954 (by decide)))).symm
        have m5970 := eq5954.trans (Wr.neR wH5959 (Or.inl (G_ne ga0 gq5954 (by decide)))).symm
        have m5971 := eq5955.trans (Wr.neR wH5959 (Or.inl (G_ne ga0 gq5954 (by decide)))).symm
        have m5972 := ex5958.trans (Wr.neI wH5959 (Or.inl (G_ne gq5955 gq5954 (by decide)))).symm
        have m5973 := Wr.I wH5959
        have m5973 := m5973.symm
        refine lv_aload_n hx hb dX10_findsFits_37 rfl (lv_at hl5773 0 rfl) ?_
        refine x_gr C hTH5959 (ci := 10) (k := 45) rfl inX10 (by decide) wF_X10_101 ga0 rg_112 rfl dX10_findsFits_38 (fun q5974 eq5974 gq5974 => ?_)
        have uq5974 : rq = q5974 := (m5968).trans eq5974.symm
        subst uq5974
        refine lv_iload hx hb dX10_findsFits_41 (lv_at hl5773 5 rfl) ?_
        refine lv_iconst (v := 0) hx hb dX10_findsFits_43 (by decide) ?_
        refine x_iast C hTH5959 hSH5959 grq rg_141 (by omega) (by show _ < ((5 : Nat) : Int); omega) (by decide) (AE_in grq (by decide)) dX10_findsFits_44 (fun H5975 locsH5975 hTH5975 hSH5975 wH5975 => ?_)
        have mf5976 : MF K s.heap H5975 a0 [56] := MF.arr wH5975 (G_ne ga0 grq (by decide)) mf5960
        have g5977 : CG (avw K H5975 a0) := CG.congr (fun k hk j => av_arr hTH5959 ga0 wH5975 grq (by decide) (CG_ok 141 (by decide) k hk)) g5961
        have g5978 : TU (avw K H5975 a0) (svw K H5975 a0) := TU.congr (fun k hk j => av_arr hTH5959 ga0 wH5975 grq (by decide) (TU_ok 141 (by decide) k hk)) (fun k hk => sv_arr ga0 wH5975 grq (by decide)) g5962
        have g5979 : WD (avw K H5975 a0) := WD.congr (fun k hk j => av_arr hTH5959 ga0 wH5975 grq (by decide) (WD_ok 141 (by decide) k hk)) g5963
        have g5980 : IM (avw K H5975 a0) := IM.congr (fun k hk j => av_arr hTH5959 ga0 wH5975 grq (by decide) (IM_ok 141 (by decide) k hk)) g5964
        have cjH5975 := i_cl (x := x5775) (by omega)
        have b5981 : AB H5975 rq (x5775.toNatClampNeg + 1) (0) (0) := (AB.ext wH5975 (by decide) b5965 (by omega) rfl)
        have m5982 := m5966.trans (Wr.neI wH5975 (Or.inl (G_ne ga0 grq (by decide)))).symm
        have m5983 := m5967.trans (Wr.neR wH5975 (Or.inl (G_ne ga0 grq (by decide)))).symm
        have m5984 := m5968.trans (Wr.neR wH5975 (Or.inl (G_ne ga0 grq (by decide)))).symm
        have m5985 := m5969.trans (Wr.neI wH5975 (Or.inl (G_ne gslq grq (by decide)))).symm
        have m5986 := m5970.trans (Wr.neR wH5975 (Or.inl (G_ne ga0 grq (by decide)))).symm
        have m5987 := m5971.trans (Wr.neR wH5975 (Or.inl (G_ne ga0 grq (by decide)))).symm
        have m5988 := m5972.trans (Wr.neI wH5975 (Or.inl (G_ne gq5955 grq (by decide)))).symm
        have m5989 := m5973.trans (Wr.neI wH5975 (Or.inl (G_ne gq5954 grq (by decide)))).symm
        have m5990 := Wr.I wH5975
        obtain ⟨x5991, ex5991⟩ : ∃ y : Int32, y = x5775 + 1 := ⟨_, rfl⟩
        have tx5991 := i_add ex5991 (by omega)
        refine lv_iinc (v := x5991) (lv' := [(5, .int x5991), (0, .ref a0), (1, .int x1), (2, .int x2), (3, .int x3), (4, .int x5774)]) hx hb dX10_findsFits_45 hl5773 (k := 5) rfl (by rw [ex5991]; rfl) (by decide) rfl (fun ls5992 hl5993 => ?_)
        refine lv_goto (tgt := 11) hx hb dX10_findsFits_48 (by decide) ?_
        have cl_x5775 := i_cl (x := x5775) (by omega)
        have cl_x5991 := i_cl (x := x5991) (by omega)
        exact ih11 ls5992 H5975 locsH5975 (x5774) (x5991) (x5776) (lv_sub hl5993 [1, 2, 3, 4, 5, 0] rfl) hTH5975 hSH5975 (by have := i_rng x5774; omega) (by have := i_rng x5991; omega) (by have := i_rng x5776; omega) m5982 m5983 m5984 m5985 (AB.weak b5981 (by omega) (by omega) (by omega)) mf5976 g5977 g5978 g5979 g5980 (by omega)
  refine lv_aload_n hx hb dX10_findsFits_0 rfl (lv_at hl 0 rfl) ?_
  refine x_gr C hT (ci := 10) (k := 4) rfl inX10 (by decide) wF_X10_13 ga0 rg_112 rfl dX10_findsFits_1 (fun q5994 eq5994 gq5994 => ?_)
  have uq5994 : slq = q5994 := (eslq).trans eq5994.symm
  subst uq5994
  refine lv_iload_n hx hb dX10_findsFits_4 rfl (lv_at hl 1 rfl) ?_
  refine x_ai C hT gslq rg_113 ⟨by omega, by show _ < ((10 : Nat) : Int); omega⟩ dX10_findsFits_5 (fun x5995 ex5995 bx5995 => ?_)
  have ux5995 : sz = x5995 := (esz).trans ex5995.symm
  subst ux5995
  refine lv_istore (lv' := [(4, .int sz), (0, .ref a0), (1, .int x1), (2, .int x2), (3, .int x3)]) hx hb dX10_findsFits_6 hl (by decide) rfl (fun ls5996 hl5997 => ?_)
  refine lv_iconst (v := 0) hx hb dX10_findsFits_8 (by decide) ?_
  refine lv_istore (lv' := [(5, .int 0), (4, .int sz), (0, .ref a0), (1, .int x1), (2, .int x2), (3, .int x3)]) hx hb dX10_findsFits_9 hl5997 (by decide) rfl (fun ls5998 hl5999 => ?_)
  have cl_0 := i_cl (x := (0 : Int32)) (by omega)
  exact J11 ((5 - (0 : Int32).toInt).toNat + 1) ls5998 s.heap [] (sz) (0) (fm) (lv_sub hl5999 [2, 3, 4, 5, 1, 0] rfl) hT hS (by have := i_rng sz; omega) (by decide) (by have := i_rng fm; omega) efm eslq erq esz (AB.weak (AB.nil (H := s.heap) (q := rq) (lo := 0) (hi := 0)) (by omega) (by omega) (by omega)) mf0 hg_CG hg_TU hg_WD hg_IM (by omega)

set_option maxHeartbeats 4000000 in
set_option maxRecDepth 100000 in
theorem a_X10_unlikeBy (l : Launch) (K : KE) (G : Nat → Option Nat) (H : Heap) {a0 : Nat} (x1 : Int32) (x2 : Int32) {slq : Nat} (sz : Int32) (hT : TY K G H) (ga0 : G a0 = some 112) (hx1 : 0 ≤ x1.toInt ∧ x1.toInt ≤ 9) (hx2 : 0 ≤ x2.toInt ∧ x2.toInt ≤ 15) (gslq : G slq = some 113) (eslq : slq = fR H a0 (K.1.2 10 4)) (esz : sz = fI H slq (x1 : Int32).toNatClampNeg) (hg_CG : CG (avw K H a0)) (hp0 : sz.toInt ≤ 5) : MX l K yX10_unlikeBy cX10_unlikeBy 8 (some .int) 6 145 0 0 [.ref a0, .int x1, .int x2] H (AE G [114, 115, 153, 140, 139] H.size) (fun v H1 => ∃ (r : Int32), v = some (.int r) ∧ TY K G H1) := by
  refine MX.of (by decide +kernel) (Nat.le_of_ble_eq_true rfl) ?_
  intro p e s m below meth c ls Q C hH hl hQ
  subst hH
  have C : CX p K s m _ meth c RX10 cX10_unlikeBy 8 (some .int) "unlikeBy" := C
  obtain ⟨hx, hb, hml, hown, hts, hKT, hr, hlocks, hnm⟩ := id C
  have hl : lv_has ls 8 [(0, .ref a0), (1, .int x1), (2, .int x2)] := hl
  have hS : va_S (AE G [114, 115, 153, 140, 139] s.heap.size) s.heap s.heap [] := va_S.rf
  have n_0 : (0 : Int32).toInt = 0 := rfl
  have n_1 : (1 : Int32).toInt = 1 := rfl
  have n_5 : (5 : Int32).toInt = 5 := rfl
  have n_16 : (16 : Int32).toInt = 16 := rfl
  have bsz := ty_ai (x := sz) esz hT gslq rg_113 (by omega)
  have hap : ∀ x y, x < 74 → y < 74 → x ≠ y → K.1.2 10 x ≠ K.1.2 10 y := x_apart hKT hts inX10 tyX10 tyX10_ok nmX10 rfl
  have J37 : ∀ (nf : Nat) (ls1499 : Array Slot) (H1498 : Heap) (locsH1498 : List Loc) (x1501 : Int32) (x1502 : Int32) (x1503 : Int32), lv_has ls1499 8 [(0, .ref a0), (1, .int x1), (2, .int x2), (3, .int x1501), (4, .int x1502), (5, .int x1503)] → TY K G H1498 → va_S (AE G [114, 115, 153, 140, 139] s.heap.size) s.heap H1498 locsH1498 → (0 ≤ x1501.toInt ∧ x1501.toInt ≤ 1024) → (0 ≤ x1502.toInt ∧ x1502.toInt ≤ 5) → (0 ≤ x1503.toInt ∧ x1503.toInt ≤ 1024) → (slq = fR H1498 a0 (K.1.2 10 4)) → (sz = fI H1498 slq (x1 : Int32).toNatClampNeg) → (CG (avw K H1498 a0)) → (1024 - x1503.toInt < (nf : Int)) → (x1501.toInt ≤ x1503.toInt ∧ 0 ≤ x1501.toInt) → W p l e ({ frames := 6, cells := 0, slots := 0, locals := 145 } : Room) s m (([.ref a0, .int x1, .int x2] : List Value).toArray) below meth c H1498 locsH1498 0 0 Q (F0 m 37 ls1499 []) := by
    intro nf
    induction nf with
    | zero =>
      intro ls1499 H1498 locsH1498 x1501 x1502 x1503 hl1500 hTH1498 hSH1498 bx1501 bx1502 bx1503 cy1504_0 cy1504_1 gy1504_CG hm37 iv37
      exfalso
      omega
    | succ nf ih37 =>
      intro ls1499 H1498 locsH1498 x1501 x1502 x1503 hl1500 hTH1498 hSH1498 bx1501 bx1502 bx1503 cy1504_0 cy1504_1 gy1504_CG hm37 iv37
      have J176 : ∀ (nf : Nat) (ls1506 : Array Slot) (H1505 : Heap) (locsH1505 : List Loc) (x1508 : Int32), lv_has ls1506 8 [(0, .ref a0), (1, .int x1), (3, .int x1501), (4, .int x1502), (5, .int x1508)] → TY K G H1505 → va_S (AE G [114, 115, 153, 140, 139] s.heap.size) s.heap H1505 locsH1505 → (0 ≤ x1508.toInt ∧ x1508.toInt ≤ 5) → (slq = fR H1505 a0 (K.1.2 10 4)) → (sz = fI H1505 slq (x1 : Int32).toNatClampNeg) → (CG (avw K H1505 a0)) → (5 - x1508.toInt < (nf : Int)) → W p l e ({ frames := 6, cells := 0, slots := 0, locals := 145 } : Room) s m (([.ref a0, .int x1, .int x2] : List Value).toArray) below meth c H1505 locsH1505 0 0 Q (F0 m 176 ls1506 []) := by
        intro nf
        induction nf with
        | zero =>
          intro ls1506 H1505 locsH1505 x1508 hl1507 hTH1505 hSH1505 bx1508 cy1509_0 cy1509_1 gy1509_CG hm176
          exfalso
          omega
        | succ nf ih176 =>
          intro ls1506 H1505 locsH1505 x1508 hl1507 hTH1505 hSH1505 bx1508 cy1509_0 cy1509_1 gy1509_CG hm176
          refine lv_iload hx hb dX10_unlikeBy_176 (lv_at hl1507 4 rfl) ?_
          refine lv_iload hx hb dX10_unlikeBy_178 (lv_at hl1507 3 rfl) ?_
          refine lv_icmp_ge (tgt := 208) hx hb dX10_unlikeBy_180 (by decide) (fun c1510 => ?_) (fun c1510 => ?_)
          · have k1511 := i_le c1510
            refine lv_iload_n hx hb dX10_unlikeBy_208 rfl (lv_at hl1507 2 rfl) ?_
            exact x_iret C hQ dX10_unlikeBy_209 hSH1505 (by decide) (by decide) (⟨x1501, rfl, hTH1505⟩)
          · have k1511 := i_nle c1510
            refine lv_aload_n hx hb dX10_unlikeBy_183 rfl (lv_at hl1507 0 rfl) ?_
            refine x_gr C hTH1505 (ci := 10) (k := 6) rfl inX10 (by decide) wF_X10_20 ga0 rg_112 rfl dX10_unlikeBy_184 (fun q1512 eq1512 gq1512 => ?_)
            refine lv_bipush (v := 16) hx hb dX10_unlikeBy_187 (by decide) ?_
            refine lv_iload_n hx hb dX10_unlikeBy_189 rfl (lv_at hl1507 1 rfl) ?_
            refine lv_imul hx hb dX10_unlikeBy_190 ?_
            refine lv_topi (fun x1513 ex1513 => ?_)
            have tx1513 := i_mul ex1513 (by rw [n_16]; omega)
            rw [n_16] at tx1513
            refine lv_iload hx hb dX10_unlikeBy_191 (lv_at hl1507 4 rfl) ?_
            refine lv_iadd hx hb dX10_unlikeBy_193 ?_
            refine lv_topi (fun x1514 ex1514 => ?_)
            have tx1514 := i_add ex1514 (by omega)
            refine lv_aload_n hx hb dX10_unlikeBy_194 rfl (lv_at hl1507 0 rfl) ?_
            refine x_gr C hTH1505 (ci := 10) (k := 55) rfl inX10 (by decide) wF_X10_131 ga0 rg_112 rfl dX10_unlikeBy_195 (fun q1515 eq1515 gq1515 => ?_)
            refine lv_iload hx hb dX10_unlikeBy_198 (lv_at hl1507 4 rfl) ?_
            refine x_ai C hTH1505 gq1515 rg_151 ⟨by omega, by show _ < ((5 : Nat) : Int); omega⟩ dX10_unlikeBy_200 (fun x1516 ex1516 bx1516 => ?_)
            refine x_iast C hTH1505 hSH1505 gq1512 rg_115 (by omega) (by show _ < ((160 : Nat) : Int); omega) ⟨by have := i_rng x1516; omega, by have := i_rng x1516; omega⟩ (AE_in gq1512 (by decide)) dX10_unlikeBy_201 (fun H1517 locsH1517 hTH1517 hSH1517 wH1517 => ?_)
            have g1518 : CG (avw K H1517 a0) := CG.congr (fun k hk j => av_arr hTH1505 ga0 wH1517 gq1512 (by decide) (CG_ok 115 (by decide) k hk)) gy1509_CG
            have m1519 := cy1509_0.trans (Wr.neR wH1517 (Or.inl (G_ne ga0 gq1512 (by decide)))).symm
            have m1520 := cy1509_1.trans (Wr.neI wH1517 (Or.inl (G_ne gslq gq1512 (by decide)))).symm
            have m1521 := eq1512.trans (Wr.neR wH1517 (Or.inl (G_ne ga0 gq1512 (by decide)))).symm
            have m1522 := eq1515.trans (Wr.neR wH1517 (Or.inl (G_ne ga0 gq1512 (by decide)))).symm
            have m1523 := ex1516.trans (Wr.neI wH1517 (Or.inl (G_ne gq1515 gq1512 (by decide)))).symm
            have m1524 := Wr.I wH1517
            have m1524 := m1524.symm
            obtain ⟨x1525, ex1525⟩ : ∃ y : Int32, y = x1508 + 1 := ⟨_, rfl⟩
            have tx1525 := i_add ex1525 (by omega)
            refine lv_iinc (v := x1525) (lv' := [(5, .int x1525), (0, .ref a0), (1, .int x1), (3, .int x1501), (4, .int x1502)]) hx hb dX10_unlikeBy_202 hl1507 (k := 4) rfl (by rw [ex1525]; rfl) (by decide) rfl (fun ls1526 hl1527 => ?_)
            refine lv_goto (tgt := 176) hx hb dX10_unlikeBy_205 (by decide) ?_
            exact ih176 ls1526 H1517 locsH1517 (x1525) (lv_sub hl1527 [1, 2, 3, 4, 0] rfl) hTH1517 hSH1517 (by have := i_rng x1525; omega) m1519 m1520 g1518 (by omega)
      have J49 : ∀ (nf : Nat) (ls1529 : Array Slot) (H1528 : Heap) (locsH1528 : List Loc) (x1532 : Int32), lv_has ls1529 8 [(0, .ref a0), (1, .int x1), (2, .int x2), (3, .int x1501), (4, .int x1502), (5, .int x1503), (6, .int x1532)] → TY K G H1528 → va_S (AE G [114, 115, 153, 140, 139] s.heap.size) s.heap H1528 locsH1528 → (0 ≤ x1503.toInt ∧ x1503.toInt ≤ 1023) → (0 ≤ x1532.toInt ∧ x1532.toInt ≤ 5) → (slq = fR H1528 a0 (K.1.2 10 4)) → (sz = fI H1528 slq (x1 : Int32).toNatClampNeg) → (CG (avw K H1528 a0)) → (5 - x1532.toInt < (nf : Int)) → (x1501.toInt ≤ x1503.toInt ∧ 0 ≤ x1501.toInt ∧ x1503.toInt ≤ 1023) → W p l e ({ frames := 6, cells := 0, slots := 0, locals := 145 } : Room) s m (([.ref a0, .int x1, .int x2] : List Value).toArray) below meth c H1528 locsH1528 0 0 Q (F0 m 49 ls1529 []) := by
        intro nf
        induction nf with
        | zero =>
          intro ls1529 H1528 locsH1528 x1532 hl1530 hTH1528 hSH1528 b1531 bx1532 cy1533_0 cy1533_1 gy1533_CG hm49 iv49
          exfalso
          omega
        | succ nf ih49 =>
          intro ls1529 H1528 locsH1528 x1532 hl1530 hTH1528 hSH1528 b1531 bx1532 cy1533_0 cy1533_1 gy1533_CG hm49 iv49
          have J97 : ∀ (nf : Nat) (ls1535 : Array Slot) (H1534 : Heap) (locsH1534 : List Loc) (x1537 : Int32) (x1538 : Int32), lv_has ls1535 8 [(0, .ref a0), (1, .int x1), (2, .int x2), (3, .int x1501), (4, .int x1502), (5, .int x1503), (6, .int x1537), (7, .int x1538)] → TY K G H1534 → va_S (AE G [114, 115, 153, 140, 139] s.heap.size) s.heap H1534 locsH1534 → (0 ≤ x1538.toInt ∧ x1538.toInt ≤ 1024) → (slq = fR H1534 a0 (K.1.2 10 4)) → (sz = fI H1534 slq (x1 : Int32).toNatClampNeg) → (CG (avw K H1534 a0)) → (1024 - x1538.toInt < (nf : Int)) → (x1501.toInt ≤ x1503.toInt ∧ 0 ≤ x1501.toInt ∧ x1538.toInt ≤ x1501.toInt ∧ x1503.toInt ≤ 1023) → W p l e ({ frames := 6, cells := 0, slots := 0, locals := 145 } : Room) s m (([.ref a0, .int x1, .int x2] : List Value).toArray) below meth c H1534 locsH1534 0 0 Q (F0 m 97 ls1535 []) := by
            intro nf
            induction nf with
            | zero =>
              intro ls1535 H1534 locsH1534 x1537 x1538 hl1536 hTH1534 hSH1534 bx1538 cy1539_0 cy1539_1 gy1539_CG hm97 iv97
              have rx1537 := i_rng x1537
              exfalso
              omega
            | succ nf ih97 =>
              intro ls1535 H1534 locsH1534 x1537 x1538 hl1536 hTH1534 hSH1534 bx1538 cy1539_0 cy1539_1 gy1539_CG hm97 iv97
              have rx1537 := i_rng x1537
              have J124 : ∀ (ls1541 : Array Slot) (H1540 : Heap) (locsH1540 : List Loc) , lv_has ls1541 8 [(0, .ref a0), (1, .int x1), (2, .int x2), (3, .int x1501), (4, .int x1502), (5, .int x1503), (6, .int x1537), (7, .int x1538)] → TY K G H1540 → va_S (AE G [114, 115, 153, 140, 139] s.heap.size) s.heap H1540 locsH1540 → (slq = fR H1540 a0 (K.1.2 10 4)) → (sz = fI H1540 slq (x1 : Int32).toNatClampNeg) → (CG (avw K H1540 a0)) → (x1501.toInt ≤ x1503.toInt ∧ 0 ≤ x1501.toInt ∧ x1538.toInt ≤ x1501.toInt ∧ x1503.toInt ≤ 1023) → W p l e ({ frames := 6, cells := 0, slots := 0, locals := 145 } : Room) s m (([.ref a0, .int x1, .int x2] : List Value).toArray) below meth c H1540 locsH1540 0 0 Q (F0 m 124 ls1541 []) := by
                intro ls1541 H1540 locsH1540  hl1542 hTH1540 hSH1540 cy1543_0 cy1543_1 gy1543_CG iv124
                have J143 : ∀ (ls1545 : Array Slot) (H1544 : Heap) (locsH1544 : List Loc) (x1547 : Int32), lv_has ls1545 8 [(0, .ref a0), (1, .int x1), (2, .int x2), (3, .int x1547), (4, .int x1502), (5, .int x1503)] → TY K G H1544 → va_S (AE G [114, 115, 153, 140, 139] s.heap.size) s.heap H1544 locsH1544 → (0 ≤ x1547.toInt ∧ x1547.toInt ≤ 1024) → (slq = fR H1544 a0 (K.1.2 10 4)) → (sz = fI H1544 slq (x1 : Int32).toNatClampNeg) → (CG (avw K H1544 a0)) → (x1547.toInt ≤ x1503.toInt + 1 ∧ x1503.toInt ≤ 1023) → W p l e ({ frames := 6, cells := 0, slots := 0, locals := 145 } : Room) s m (([.ref a0, .int x1, .int x2] : List Value).toArray) below meth c H1544 locsH1544 0 0 Q (F0 m 143 ls1545 []) := by
                  intro ls1545 H1544 locsH1544 x1547 hl1546 hTH1544 hSH1544 bx1547 cy1548_0 cy1548_1 gy1548_CG iv143
                  obtain ⟨x1549, ex1549⟩ : ∃ y : Int32, y = x1503 + 1 := ⟨_, rfl⟩
                  have tx1549 := i_add ex1549 (by omega)
                  refine lv_iinc (v := x1549) (lv' := [(5, .int x1549), (0, .ref a0), (1, .int x1), (2, .int x2), (3, .int x1547), (4, .int x1502)]) hx hb dX10_unlikeBy_143 hl1546 (k := 5) rfl (by rw [ex1549]; rfl) (by decide) rfl (fun ls1550 hl1551 => ?_)
                  refine lv_goto (tgt := 37) hx hb dX10_unlikeBy_146 (by decide) ?_
                  exact ih37 ls1550 H1544 locsH1544 (x1547) (x1502) (x1549) (lv_sub hl1551 [1, 2, 3, 4, 5, 0] rfl) hTH1544 hSH1544 (by have := i_rng x1547; omega) (by have := i_rng x1502; omega) (by have := i_rng x1549; omega) cy1548_0 cy1548_1 gy1548_CG (by omega) (by omega)
                refine lv_aload_n hx hb dX10_unlikeBy_124 rfl (lv_at hl1542 0 rfl) ?_
                refine x_gr C hTH1540 (ci := 10) (k := 58) rfl inX10 (by decide) wF_X10_137 ga0 rg_112 rfl dX10_unlikeBy_125 (fun q1552 eq1552 gq1552 => ?_)
                refine lv_iload hx hb dX10_unlikeBy_128 (lv_at hl1542 7 rfl) ?_
                refine lv_iload hx hb dX10_unlikeBy_130 (lv_at hl1542 6 rfl) ?_
                refine x_iast C hTH1540 hSH1540 gq1552 rg_153 (by omega) (by show _ < ((1024 : Nat) : Int); omega) ⟨by have := i_rng x1537; omega, by have := i_rng x1537; omega⟩ (AE_in gq1552 (by decide)) dX10_unlikeBy_132 (fun H1553 locsH1553 hTH1553 hSH1553 wH1553 => ?_)
                have g1554 : CG (avw K H1553 a0) := CG.congr (fun k hk j => av_arr hTH1540 ga0 wH1553 gq1552 (by decide) (CG_ok 153 (by decide) k hk)) gy1543_CG
                have m1555 := cy1543_0.trans (Wr.neR wH1553 (Or.inl (G_ne ga0 gq1552 (by decide)))).symm
                have m1556 := cy1543_1.trans (Wr.neI wH1553 (Or.inl (G_ne gslq gq1552 (by decide)))).symm
                have m1557 := eq1552.trans (Wr.neR wH1553 (Or.inl (G_ne ga0 gq1552 (by decide)))).symm
                have m1558 := Wr.I wH1553
                have m1558 := m1558.symm
                refine lv_iload hx hb dX10_unlikeBy_133 (lv_at hl1542 7 rfl) ?_
                refine lv_iload_n hx hb dX10_unlikeBy_135 rfl (lv_at hl1542 3 rfl) ?_
                refine lv_icmp_ne (tgt := 143) hx hb dX10_unlikeBy_136 (by decide) (fun c1559 => ?_) (fun c1559 => ?_)
                · have k1560 := i_ne c1559
                  exact J143 ls1541 H1553 locsH1553 (x1501) (lv_sub hl1542 [0, 1, 2, 3, 4, 5] rfl) hTH1553 hSH1553 (by have := i_rng x1501; omega) m1555 m1556 g1554 (by omega)
                · have k1560 := i_eq c1559
                  refine lv_iload_n hx hb dX10_unlikeBy_139 rfl (lv_at hl1542 3 rfl) ?_
                  refine lv_iconst (v := 1) hx hb dX10_unlikeBy_140 (by decide) ?_
                  refine lv_iadd hx hb dX10_unlikeBy_141 ?_
                  refine lv_topi (fun x1561 ex1561 => ?_)
                  have tx1561 := i_add ex1561 (by omega)
                  refine lv_istore_n (lv' := [(3, .int x1561), (0, .ref a0), (1, .int x1), (2, .int x2), (4, .int x1502), (5, .int x1503), (6, .int x1537), (7, .int x1538)]) hx hb dX10_unlikeBy_142 rfl hl1542 (by decide) rfl (fun ls1562 hl1563 => ?_)
                  exact J143 ls1562 H1553 locsH1553 (x1561) (lv_sub hl1563 [1, 2, 3, 0, 4, 5] rfl) hTH1553 hSH1553 (by have := i_rng x1561; omega) m1555 m1556 g1554 (by omega)
              refine lv_iload hx hb dX10_unlikeBy_97 (lv_at hl1536 7 rfl) ?_
              refine lv_iload_n hx hb dX10_unlikeBy_99 rfl (lv_at hl1536 3 rfl) ?_
              refine lv_icmp_ge (tgt := 124) hx hb dX10_unlikeBy_100 (by decide) (fun c1564 => ?_) (fun c1564 => ?_)
              · have k1565 := i_le c1564
                exact J124 ls1535 H1534 locsH1534 (lv_sub hl1536 [0, 1, 2, 3, 4, 5, 6, 7] rfl) hTH1534 hSH1534 cy1539_0 cy1539_1 gy1539_CG (by omega)
              · have k1565 := i_nle c1564
                refine lv_aload_n hx hb dX10_unlikeBy_103 rfl (lv_at hl1536 0 rfl) ?_
                refine x_gr C hTH1534 (ci := 10) (k := 58) rfl inX10 (by decide) wF_X10_137 ga0 rg_112 rfl dX10_unlikeBy_104 (fun q1566 eq1566 gq1566 => ?_)
                refine lv_iload hx hb dX10_unlikeBy_107 (lv_at hl1536 7 rfl) ?_
                refine x_ai C hTH1534 gq1566 rg_153 ⟨by omega, by show _ < ((1024 : Nat) : Int); omega⟩ dX10_unlikeBy_109 (fun x1567 ex1567 bx1567 => ?_)
                refine lv_iload hx hb dX10_unlikeBy_110 (lv_at hl1536 6 rfl) ?_
                refine lv_icmp_eq (tgt := 124) hx hb dX10_unlikeBy_112 (by decide) (fun c1568 => ?_) (fun c1568 => ?_)
                · have k1569 := i_eq c1568
                  exact J124 ls1535 H1534 locsH1534 (lv_sub hl1536 [0, 1, 2, 3, 4, 5, 6, 7] rfl) hTH1534 hSH1534 cy1539_0 cy1539_1 gy1539_CG (by omega)
                · have k1569 := i_ne c1568
                  refine lv_iload hx hb dX10_unlikeBy_115 (lv_at hl1536 7 rfl) ?_
                  refine lv_iconst (v := 1) hx hb dX10_unlikeBy_117 (by decide) ?_
                  refine lv_iadd hx hb dX10_unlikeBy_118 ?_
                  refine lv_topi (fun x1570 ex1570 => ?_)
                  have tx1570 := i_add ex1570 (by omega)
                  refine lv_istore (lv' := [(7, .int x1570), (0, .ref a0), (1, .int x1), (2, .int x2), (3, .int x1501), (4, .int x1502), (5, .int x1503), (6, .int x1537)]) hx hb dX10_unlikeBy_119 hl1536 (by decide) rfl (fun ls1571 hl1572 => ?_)
                  refine lv_goto (tgt := 97) hx hb dX10_unlikeBy_121 (by decide) ?_
                  exact ih97 ls1571 H1534 locsH1534 (x1537) (x1570) (lv_sub hl1572 [1, 2, 3, 4, 5, 6, 7, 0] rfl) hTH1534 hSH1534 (by have := i_rng x1570; omega) cy1539_0 cy1539_1 gy1539_CG (by omega) (by omega)
          refine lv_iload hx hb dX10_unlikeBy_49 (lv_at hl1530 6 rfl) ?_
          refine lv_iload hx hb dX10_unlikeBy_51 (lv_at hl1530 4 rfl) ?_
          refine lv_icmp_ge (tgt := 86) hx hb dX10_unlikeBy_53 (by decide) (fun c1573 => ?_) (fun c1573 => ?_)
          · have k1574 := i_le c1573
            refine lv_aload_n hx hb dX10_unlikeBy_86 rfl (lv_at hl1530 0 rfl) ?_
            refine lv_iload_n hx hb dX10_unlikeBy_87 rfl (lv_at hl1530 1 rfl) ?_
            refine lv_iconst (v := 0) hx hb dX10_unlikeBy_88 (by decide) ?_
            refine x_V (As := [.int x1, .int 0]) (rest := []) C (a_X10_toneNow l K G H1528 (x1) (0) hTH1528 ga0 (by omega) gy1533_CG) yo_X10_toneNow wM_X10_335 ⟨⟨by decide, by decide⟩, by decide, by decide⟩ (x_rv C hTH1528 (ci := 10) rfl ga0 rg_112) rfl hl1530.1 rfl (Nat.le_of_ble_eq_true rfl) dX10_unlikeBy_89 hSH1528 (AE_sub (fun _ _ => rfl) (by decide) hSH1528.1) (fun vH1575 H1575 locsH1575 pH1575 zH1575 kH1575 hSH1575 => ?_)
            obtain ⟨x1576, hvH1575, hTH1575⟩ := pH1575
            subst hvH1575
            have g1577 : CG (avw K H1575 a0) := CG.congr (fun k hk j => av_eff hTH1528 kH1575 ga0 (by decide) (CG_eff [140, 139] (by decide) k hk)) gy1533_CG
            have m1578 := (cy1533_0).trans (fR_kept (x_lt hTH1528 kH1575 ga0 (by decide))).symm
            have m1579 := (cy1533_1).trans (fI_kept (x_lt hTH1528 kH1575 gslq (by decide))).symm
            refine W.eq (g2 := F0 m 92 ls1529 [.int x1576]) rfl ?_
            refine lv_istore (lv' := [(6, .int x1576), (0, .ref a0), (1, .int x1), (2, .int x2), (3, .int x1501), (4, .int x1502), (5, .int x1503)]) hx hb dX10_unlikeBy_92 hl1530 (by decide) rfl (fun ls1580 hl1581 => ?_)
            refine lv_iconst (v := 0) hx hb dX10_unlikeBy_94 (by decide) ?_
            refine lv_istore (lv' := [(7, .int 0), (6, .int x1576), (0, .ref a0), (1, .int x1), (2, .int x2), (3, .int x1501), (4, .int x1502), (5, .int x1503)]) hx hb dX10_unlikeBy_95 hl1581 (by decide) rfl (fun ls1582 hl1583 => ?_)
            exact J97 ((1024 - (0 : Int32).toInt).toNat + 1) ls1582 H1575 locsH1575 (x1576) (0) (lv_sub hl1583 [2, 3, 4, 5, 6, 7, 1, 0] rfl) hTH1575 hSH1575 (by decide) m1578 m1579 g1577 (by omega) (by omega)
          · have k1574 := i_nle c1573
            refine lv_aload_n hx hb dX10_unlikeBy_56 rfl (lv_at hl1530 0 rfl) ?_
            refine x_gr C hTH1528 (ci := 10) (k := 6) rfl inX10 (by decide) wF_X10_20 ga0 rg_112 rfl dX10_unlikeBy_57 (fun q1584 eq1584 gq1584 => ?_)
            refine lv_bipush (v := 16) hx hb dX10_unlikeBy_60 (by decide) ?_
            refine lv_iload_n hx hb dX10_unlikeBy_62 rfl (lv_at hl1530 1 rfl) ?_
            refine lv_imul hx hb dX10_unlikeBy_63 ?_
            refine lv_topi (fun x1585 ex1585 => ?_)
            have tx1585 := i_mul ex1585 (by rw [n_16]; omega)
            rw [n_16] at tx1585
            refine lv_iload hx hb dX10_unlikeBy_64 (lv_at hl1530 6 rfl) ?_
            refine lv_iadd hx hb dX10_unlikeBy_66 ?_
            refine lv_topi (fun x1586 ex1586 => ?_)
            have tx1586 := i_add ex1586 (by omega)
            refine lv_aload_n hx hb dX10_unlikeBy_67 rfl (lv_at hl1530 0 rfl) ?_
            refine x_gr C hTH1528 (ci := 10) (k := 57) rfl inX10 (by decide) wF_X10_134 ga0 rg_112 rfl dX10_unlikeBy_68 (fun q1587 eq1587 gq1587 => ?_)
            refine lv_iconst (v := 5) hx hb dX10_unlikeBy_71 (by decide) ?_
            refine lv_iload hx hb dX10_unlikeBy_72 (lv_at hl1530 5 rfl) ?_
            refine lv_imul hx hb dX10_unlikeBy_74 ?_
            refine lv_topi (fun x1588 ex1588 => ?_)
            have tx1588 := i_mul ex1588 (by rw [n_5]; omega)
            rw [n_5] at tx1588
            refine lv_iload hx hb dX10_unlikeBy_75 (lv_at hl1530 6 rfl) ?_
            refine lv_iadd hx hb dX10_unlikeBy_77 ?_
            refine lv_topi (fun x1589 ex1589 => ?_)
            have tx1589 := i_add ex1589 (by omega)
            refine x_ai C hTH1528 gq1587 rg_152 ⟨by omega, by show _ < ((5120 : Nat) : Int); omega⟩ dX10_unlikeBy_78 (fun x1590 ex1590 bx1590 => ?_)
            refine x_iast C hTH1528 hSH1528 gq1584 rg_115 (by omega) (by show _ < ((160 : Nat) : Int); omega) ⟨by have := i_rng x1590; omega, by have := i_rng x1590; omega⟩ (AE_in gq1584 (by decide)) dX10_unlikeBy_79 (fun H1591 locsH1591 hTH1591 hSH1591 wH1591 => ?_)
            have g1592 : CG (avw K H1591 a0) := CG.congr (fun k hk j => av_arr hTH1528 ga0 wH1591 gq1584 (by decide) (CG_ok 115 (by decide) k hk)) gy1533_CG
            have m1593 := cy1533_0.trans (Wr.neR wH1591 (Or.inl (G_ne ga0 gq1584 (by decide)))).symm
            have m1594 := cy1533_1.trans (Wr.neI wH1591 (Or.inl (G_ne gslq gq1584 (by decide)))).symm
            have m1595 := eq1584.trans (Wr.neR wH1591 (Or.inl (G_ne ga0 gq1584 (by decide)))).symm
            have m1596 := eq1587.trans (Wr.neR wH1591 (Or.inl (G_ne ga0 gq1584 (by decide)))).symm
            have m1597 := ex1590.trans (Wr.neI wH1591 (Or.inl (G_ne gq1587 gq1584 (by decide)))).symm
            have m1598 := Wr.I wH1591
            have m1598 := m1598.symm
            obtain ⟨x1599, ex1599⟩ : ∃ y : Int32, y = x1532 + 1 := ⟨_, rfl⟩
            have tx1599 := i_add ex1599 (by omega)
            refine lv_iinc (v := x1599) (lv' := [(6, .int x1599), (0, .ref a0), (1, .int x1), (2, .int x2), (3, .int x1501), (4, .int x1502), (5, .int x1503)]) hx hb dX10_unlikeBy_80 hl1530 (k := 6) rfl (by rw [ex1599]; rfl) (by decide) rfl (fun ls1600 hl1601 => ?_)
            refine lv_goto (tgt := 49) hx hb dX10_unlikeBy_83 (by decide) ?_
            exact ih49 ls1600 H1591 locsH1591 (x1599) (lv_sub hl1601 [1, 2, 3, 4, 5, 6, 0] rfl) hTH1591 hSH1591 (by have := i_rng x1503; omega) (by have := i_rng x1599; omega) m1593 m1594 g1592 (by omega) (by omega)
      refine lv_iload hx hb dX10_unlikeBy_37 (lv_at hl1500 5 rfl) ?_
      refine lv_aload_n hx hb dX10_unlikeBy_39 rfl (lv_at hl1500 0 rfl) ?_
      refine x_gi C hTH1498 (ci := 10) (k := 56) rfl inX10 (by decide) wF_X10_378 ga0 rg_112 rfl dX10_unlikeBy_40 (fun x1602 ex1602 bx1602 => ?_)
      refine lv_icmp_ge (tgt := 149) hx hb dX10_unlikeBy_43 (by decide) (fun c1603 => ?_) (fun c1603 => ?_)
      · have k1604 := i_le c1603
        refine lv_aload_n hx hb dX10_unlikeBy_149 rfl (lv_at hl1500 0 rfl) ?_
        refine x_gr C hTH1498 (ci := 10) (k := 5) rfl inX10 (by decide) wF_X10_17 ga0 rg_112 rfl dX10_unlikeBy_150 (fun q1605 eq1605 gq1605 => ?_)
        refine lv_bipush (v := 16) hx hb dX10_unlikeBy_153 (by decide) ?_
        refine lv_iload_n hx hb dX10_unlikeBy_155 rfl (lv_at hl1500 1 rfl) ?_
        refine lv_imul hx hb dX10_unlikeBy_156 ?_
        refine lv_topi (fun x1606 ex1606 => ?_)
        have tx1606 := i_mul ex1606 (by rw [n_16]; omega)
        rw [n_16] at tx1606
        refine lv_iload_n hx hb dX10_unlikeBy_157 rfl (lv_at hl1500 2 rfl) ?_
        refine lv_iadd hx hb dX10_unlikeBy_158 ?_
        refine lv_topi (fun x1607 ex1607 => ?_)
        have tx1607 := i_add ex1607 (by omega)
        refine lv_aload_n hx hb dX10_unlikeBy_159 rfl (lv_at hl1500 0 rfl) ?_
        refine x_gr C hTH1498 (ci := 10) (k := 5) rfl inX10 (by decide) wF_X10_17 ga0 rg_112 rfl dX10_unlikeBy_160 (fun q1608 eq1608 gq1608 => ?_)
        have uq1608 : q1605 = q1608 := (eq1605).trans eq1608.symm
        subst uq1608
        refine lv_bipush (v := 16) hx hb dX10_unlikeBy_163 (by decide) ?_
        refine lv_iload_n hx hb dX10_unlikeBy_165 rfl (lv_at hl1500 1 rfl) ?_
        refine lv_imul hx hb dX10_unlikeBy_166 ?_
        refine lv_topi (fun x1609 ex1609 => ?_)
        have tx1609 := i_mul ex1609 (by rw [n_16]; omega)
        rw [n_16] at tx1609
        refine lv_iload_n hx hb dX10_unlikeBy_167 rfl (lv_at hl1500 2 rfl) ?_
        refine lv_iadd hx hb dX10_unlikeBy_168 ?_
        refine lv_topi (fun x1610 ex1610 => ?_)
        have tx1610 := i_add ex1610 (by omega)
        refine x_ai C hTH1498 gq1605 rg_114 ⟨by omega, by show _ < ((160 : Nat) : Int); omega⟩ dX10_unlikeBy_169 (fun x1611 ex1611 bx1611 => ?_)
        refine lv_iconst (v := 1) hx hb dX10_unlikeBy_170 (by decide) ?_
        refine lv_iadd hx hb dX10_unlikeBy_171 ?_
        refine lv_topi (fun x1612 ex1612 => ?_)
        refine x_iast C hTH1498 hSH1498 gq1605 rg_114 (by omega) (by show _ < ((160 : Nat) : Int); omega) ⟨by have := i_rng x1612; omega, by have := i_rng x1612; omega⟩ (AE_in gq1605 (by decide)) dX10_unlikeBy_172 (fun H1613 locsH1613 hTH1613 hSH1613 wH1613 => ?_)
        have g1614 : CG (avw K H1613 a0) := CG.congr (fun k hk j => av_arr hTH1498 ga0 wH1613 gq1605 (by decide) (CG_ok 114 (by decide) k hk)) gy1504_CG
        have m1615 := cy1504_0.trans (Wr.neR wH1613 (Or.inl (G_ne ga0 gq1605 (by decide)))).symm
        have m1616 := cy1504_1.trans (Wr.neI wH1613 (Or.inl (G_ne gslq gq1605 (by decide)))).symm
        have m1617 := ex1602.trans (Wr.neI wH1613 (Or.inl (G_ne ga0 gq1605 (by decide)))).symm
        have m1618 := eq1605.trans (Wr.neR wH1613 (Or.inl (G_ne ga0 gq1605 (by decide)))).symm
        have m1620 := Wr.I wH1613
        have m1620 := m1620.symm
        refine lv_iconst (v := 0) hx hb dX10_unlikeBy_173 (by decide) ?_
        refine lv_istore (lv' := [(5, .int 0), (0, .ref a0), (1, .int x1), (2, .int x2), (3, .int x1501), (4, .int x1502)]) hx hb dX10_unlikeBy_174 hl1500 (by decide) rfl (fun ls1621 hl1622 => ?_)
        exact J176 ((5 - (0 : Int32).toInt).toNat + 1) ls1621 H1613 locsH1613 (0) (lv_sub hl1622 [1, 2, 4, 5, 0] rfl) hTH1613 hSH1613 (by decide) m1615 m1616 g1614 (by omega)
      · have k1604 := i_nle c1603
        refine lv_iconst (v := 0) hx hb dX10_unlikeBy_46 (by decide) ?_
        refine lv_istore (lv' := [(6, .int 0), (0, .ref a0), (1, .int x1), (2, .int x2), (3, .int x1501), (4, .int x1502), (5, .int x1503)]) hx hb dX10_unlikeBy_47 hl1500 (by decide) rfl (fun ls1623 hl1624 => ?_)
        exact J49 ((5 - (0 : Int32).toInt).toNat + 1) ls1623 H1498 locsH1498 (0) (lv_sub hl1624 [1, 2, 3, 4, 5, 6, 0] rfl) hTH1498 hSH1498 (by have := i_rng x1503; omega) (by decide) cy1504_0 cy1504_1 gy1504_CG (by omega) (by omega)
  refine lv_iconst (v := 0) hx hb dX10_unlikeBy_0 (by decide) ?_
  refine lv_istore_n (lv' := [(3, .int 0), (0, .ref a0), (1, .int x1), (2, .int x2)]) hx hb dX10_unlikeBy_1 rfl hl (by decide) rfl (fun ls1625 hl1626 => ?_)
  refine lv_aload_n hx hb dX10_unlikeBy_2 rfl (lv_at hl1626 1 rfl) ?_
  refine x_gr C hT (ci := 10) (k := 4) rfl inX10 (by decide) wF_X10_13 ga0 rg_112 rfl dX10_unlikeBy_3 (fun q1627 eq1627 gq1627 => ?_)
  have uq1627 : slq = q1627 := (eslq).trans eq1627.symm
  subst uq1627
  refine lv_iload_n hx hb dX10_unlikeBy_6 rfl (lv_at hl1626 2 rfl) ?_
  refine x_ai C hT gslq rg_113 ⟨by omega, by show _ < ((10 : Nat) : Int); omega⟩ dX10_unlikeBy_7 (fun x1628 ex1628 bx1628 => ?_)
  have ux1628 : sz = x1628 := (esz).trans ex1628.symm
  subst ux1628
  refine lv_istore (lv' := [(4, .int sz), (3, .int 0), (0, .ref a0), (1, .int x1), (2, .int x2)]) hx hb dX10_unlikeBy_8 hl1626 (by decide) rfl (fun ls1629 hl1630 => ?_)
  refine lv_aload_n hx hb dX10_unlikeBy_10 rfl (lv_at hl1630 2 rfl) ?_
  refine x_gr C hT (ci := 10) (k := 5) rfl inX10 (by decide) wF_X10_17 ga0 rg_112 rfl dX10_unlikeBy_11 (fun q1631 eq1631 gq1631 => ?_)
  refine lv_bipush (v := 16) hx hb dX10_unlikeBy_14 (by decide) ?_
  refine lv_iload_n hx hb dX10_unlikeBy_16 rfl (lv_at hl1630 3 rfl) ?_
  refine lv_imul hx hb dX10_unlikeBy_17 ?_
  refine lv_topi (fun x1632 ex1632 => ?_)
  have tx1632 := i_mul ex1632 (by rw [n_16]; omega)
  rw [n_16] at tx1632
  refine lv_iload_n hx hb dX10_unlikeBy_18 rfl (lv_at hl1630 4 rfl) ?_
  refine lv_iadd hx hb dX10_unlikeBy_19 ?_
  refine lv_topi (fun x1633 ex1633 => ?_)
  have tx1633 := i_add ex1633 (by omega)
  refine lv_aload_n hx hb dX10_unlikeBy_20 rfl (lv_at hl1630 2 rfl) ?_
  refine x_gr C hT (ci := 10) (k := 5) rfl inX10 (by decide) wF_X10_17 ga0 rg_112 rfl dX10_unlikeBy_21 (fun q1634 eq1634 gq1634 => ?_)
  have uq1634 : q1631 = q1634 := (eq1631).trans eq1634.symm
  subst uq1634
  refine lv_bipush (v := 16) hx hb dX10_unlikeBy_24 (by decide) ?_
  refine lv_iload_n hx hb dX10_unlikeBy_26 rfl (lv_at hl1630 3 rfl) ?_
  refine lv_imul hx hb dX10_unlikeBy_27 ?_
  refine lv_topi (fun x1635 ex1635 => ?_)
  have tx1635 := i_mul ex1635 (by rw [n_16]; omega)
  rw [n_16] at tx1635
  refine lv_iload_n hx hb dX10_unlikeBy_28 rfl (lv_at hl1630 4 rfl) ?_
  refine lv_iadd hx hb dX10_unlikeBy_29 ?_
  refine lv_topi (fun x1636 ex1636 => ?_)
  have tx1636 := i_add ex1636 (by omega)
  refine x_ai C hT gq1631 rg_114 ⟨by omega, by show _ < ((160 : Nat) : Int); omega⟩ dX10_unlikeBy_30 (fun x1637 ex1637 bx1637 => ?_)
  refine lv_iconst (v := 1) hx hb dX10_unlikeBy_31 (by decide) ?_
  refine lv_isub hx hb dX10_unlikeBy_32 ?_
  refine lv_topi (fun x1638 ex1638 => ?_)
  refine x_iast C hT hS gq1631 rg_114 (by omega) (by show _ < ((160 : Nat) : Int); omega) ⟨by have := i_rng x1638; omega, by have := i_rng x1638; omega⟩ (AE_in gq1631 (by decide)) dX10_unlikeBy_33 (fun H1639 locsH1639 hTH1639 hSH1639 wH1639 => ?_)
  have g1640 : CG (avw K H1639 a0) := CG.congr (fun k hk j => av_arr hT ga0 wH1639 gq1631 (by decide) (CG_ok 114 (by decide) k hk)) hg_CG
  have m1641 := eslq.trans (Wr.neR wH1639 (Or.inl (G_ne ga0 gq1631 (by decide)))).symm
  have m1642 := esz.trans (Wr.neI wH1639 (Or.inl (G_ne gslq gq1631 (by decide)))).symm
  have m1643 := eq1631.trans (Wr.neR wH1639 (Or.inl (G_ne ga0 gq1631 (by decide)))).symm
  have m1645 := Wr.I wH1639
  have m1645 := m1645.symm
  refine lv_iconst (v := 0) hx hb dX10_unlikeBy_34 (by decide) ?_
  refine lv_istore (lv' := [(5, .int 0), (4, .int sz), (3, .int 0), (0, .ref a0), (1, .int x1), (2, .int x2)]) hx hb dX10_unlikeBy_35 hl1630 (by decide) rfl (fun ls1646 hl1647 => ?_)
  exact J37 ((1024 - (0 : Int32).toInt).toNat + 1) ls1646 H1639 locsH1639 (0) (sz) (0) (lv_sub hl1647 [3, 4, 5, 2, 1, 0] rfl) hTH1639 hSH1639 (by decide) (by have := i_rng sz; omega) (by decide) m1641 m1642 g1640 (by omega) (by omega)

set_option maxHeartbeats 4000000 in
set_option maxRecDepth 100000 in
theorem a_X10_nextPass (l : Launch) (K : KE) (G : Nat → Option Nat) (H : Heap) {a0 : Nat} (x1 : Int32) {slq : Nat} (sz : Int32) (hT : TY K G H) (ga0 : G a0 = some 112) (hx1 : 0 ≤ x1.toInt ∧ x1.toInt ≤ 9) (gslq : G slq = some 113) (eslq : slq = fR H a0 (K.1.2 10 4)) (esz : sz = fI H slq (x1 : Int32).toNatClampNeg) (hg_CG : CG (avw K H a0)) (hp0 : sz.toInt ≤ 5) : MX l K yX10_nextPass cX10_nextPass 6 (some .int) 7 172 0 0 [.ref a0, .int x1] H (AE G [114, 115, 153, 140, 139] H.size) (fun v H1 => ∃ (r : Int32), v = some (.int r) ∧ TY K G H1) := by
  refine MX.of (by decide +kernel) (Nat.le_of_ble_eq_true rfl) ?_
  intro p e s m below meth c ls Q C hH hl hQ
  subst hH
  have C : CX p K s m _ meth c RX10 cX10_nextPass 6 (some .int) "nextPass" := C
  obtain ⟨hx, hb, hml, hown, hts, hKT, hr, hlocks, hnm⟩ := id C
  have hl : lv_has ls 6 [(0, .ref a0), (1, .int x1)] := hl
  have hS : va_S (AE G [114, 115, 153, 140, 139] s.heap.size) s.heap s.heap [] := va_S.rf
  have n_m1 : ((-1) : Int32).toInt = -1 := rfl
  have n_0 : (0 : Int32).toInt = 0 := rfl
  have n_1 : (1 : Int32).toInt = 1 := rfl
  have n_16 : (16 : Int32).toInt = 16 := rfl
  have bsz := ty_ai (x := sz) esz hT gslq rg_113 (by omega)
  have hap : ∀ x y, x < 74 → y < 74 → x ≠ y → K.1.2 10 x ≠ K.1.2 10 y := x_apart hKT hts inX10 tyX10 tyX10_ok nmX10 rfl
  have J7 : ∀ (nf : Nat) (ls423 : Array Slot) (H422 : Heap) (locsH422 : List Loc) (x425 : Int32) (x426 : Int32) (x427 : Int32), lv_has ls423 6 [(0, .ref a0), (1, .int x1), (2, .int x425), (3, .int x426), (4, .int x427)] → TY K G H422 → va_S (AE G [114, 115, 153, 140, 139] s.heap.size) s.heap H422 locsH422 → ((-1) ≤ x425.toInt ∧ x425.toInt ≤ 4) → (0 ≤ x426.toInt ∧ x426.toInt ≤ 2147483647) → (0 ≤ x427.toInt ∧ x427.toInt ≤ 5) → (slq = fR H422 a0 (K.1.2 10 4)) → (sz = fI H422 slq (x1 : Int32).toNatClampNeg) → (CG (avw K H422 a0)) → (5 - x427.toInt < (nf : Int)) → W p l e ({ frames := 7, cells := 0, slots := 0, locals := 172 } : Room) s m (([.ref a0, .int x1] : List Value).toArray) below meth c H422 locsH422 0 0 Q (F0 m 7 ls423 []) := by
    intro nf
    induction nf with
    | zero =>
      intro ls423 H422 locsH422 x425 x426 x427 hl424 hTH422 hSH422 bx425 bx426 bx427 cy428_0 cy428_1 gy428_CG hm7
      exfalso
      omega
    | succ nf ih7 =>
      intro ls423 H422 locsH422 x425 x426 x427 hl424 hTH422 hSH422 bx425 bx426 bx427 cy428_0 cy428_1 gy428_CG hm7
      have J61 : ∀ (ls430 : Array Slot) (H429 : Heap) (locsH429 : List Loc) (x432 : Int32) (x433 : Int32), lv_has ls430 6 [(0, .ref a0), (1, .int x1), (2, .int x432), (3, .int x433), (4, .int x427)] → TY K G H429 → va_S (AE G [114, 115, 153, 140, 139] s.heap.size) s.heap H429 locsH429 → ((-1) ≤ x432.toInt ∧ x432.toInt ≤ 4) → (0 ≤ x433.toInt ∧ x433.toInt ≤ 2147483647) → (0 ≤ x427.toInt ∧ x427.toInt ≤ 4) → (slq = fR H429 a0 (K.1.2 10 4)) → (sz = fI H429 slq (x1 : Int32).toNatClampNeg) → (CG (avw K H429 a0)) → W p l e ({ frames := 7, cells := 0, slots := 0, locals := 172 } : Room) s m (([.ref a0, .int x1] : List Value).toArray) below meth c H429 locsH429 0 0 Q (F0 m 61 ls430 []) := by
        intro ls430 H429 locsH429 x432 x433 hl431 hTH429 hSH429 bx432 bx433 b434 cy435_0 cy435_1 gy435_CG
        obtain ⟨x436, ex436⟩ : ∃ y : Int32, y = x427 + 1 := ⟨_, rfl⟩
        have tx436 := i_add ex436 (by omega)
        refine lv_iinc (v := x436) (lv' := [(4, .int x436), (0, .ref a0), (1, .int x1), (2, .int x432), (3, .int x433)]) hx hb dX10_nextPass_61 hl431 (k := 4) rfl (by rw [ex436]; rfl) (by decide) rfl (fun ls437 hl438 => ?_)
        refine lv_goto (tgt := 7) hx hb dX10_nextPass_64 (by decide) ?_
        exact ih7 ls437 H429 locsH429 (x432) (x433) (x436) (lv_sub hl438 [1, 2, 3, 4, 0] rfl) hTH429 hSH429 (by have := i_rng x432; omega) (by have := i_rng x433; omega) (by have := i_rng x436; omega) cy435_0 cy435_1 gy435_CG (by omega)
      refine lv_iload hx hb dX10_nextPass_7 (lv_at hl424 4 rfl) ?_
      refine lv_aload_n hx hb dX10_nextPass_9 rfl (lv_at hl424 0 rfl) ?_
      refine x_gr C hTH422 (ci := 10) (k := 4) rfl inX10 (by decide) wF_X10_13 ga0 rg_112 rfl dX10_nextPass_10 (fun q439 eq439 gq439 => ?_)
      have uq439 : slq = q439 := (cy428_0).trans eq439.symm
      subst uq439
      refine lv_iload_n hx hb dX10_nextPass_13 rfl (lv_at hl424 1 rfl) ?_
      refine x_ai C hTH422 gslq rg_113 ⟨by omega, by show _ < ((10 : Nat) : Int); omega⟩ dX10_nextPass_14 (fun x440 ex440 bx440 => ?_)
      have ux440 : sz = x440 := (cy428_1).trans ex440.symm
      subst ux440
      refine lv_icmp_ge (tgt := 67) hx hb dX10_nextPass_15 (by decide) (fun c441 => ?_) (fun c441 => ?_)
      · have k442 := i_le c441
        refine lv_iload_n hx hb dX10_nextPass_67 rfl (lv_at hl424 2 rfl) ?_
        exact x_iret C hQ dX10_nextPass_68 hSH422 (by decide) (by decide) (⟨x425, rfl, hTH422⟩)
      · have k442 := i_nle c441
        refine lv_aload_n hx hb dX10_nextPass_18 rfl (lv_at hl424 0 rfl) ?_
        refine x_gr C hTH422 (ci := 10) (k := 5) rfl inX10 (by decide) wF_X10_17 ga0 rg_112 rfl dX10_nextPass_19 (fun q443 eq443 gq443 => ?_)
        refine lv_bipush (v := 16) hx hb dX10_nextPass_22 (by decide) ?_
        refine lv_iload_n hx hb dX10_nextPass_24 rfl (lv_at hl424 1 rfl) ?_
        refine lv_imul hx hb dX10_nextPass_25 ?_
        refine lv_topi (fun x444 ex444 => ?_)
        have tx444 := i_mul ex444 (by rw [n_16]; omega)
        rw [n_16] at tx444
        refine lv_iload hx hb dX10_nextPass_26 (lv_at hl424 4 rfl) ?_
        refine lv_iadd hx hb dX10_nextPass_28 ?_
        refine lv_topi (fun x445 ex445 => ?_)
        have tx445 := i_add ex445 (by omega)
        refine x_ai C hTH422 gq443 rg_114 ⟨by omega, by show _ < ((160 : Nat) : Int); omega⟩ dX10_nextPass_29 (fun x446 ex446 bx446 => ?_)
        refine lv_iconst (v := 1) hx hb dX10_nextPass_30 (by decide) ?_
        refine lv_icmp_gt (tgt := 37) hx hb dX10_nextPass_31 (by decide) (fun c447 => ?_) (fun c447 => ?_)
        · have k448 := i_lt c447
          refine lv_aload_n hx hb dX10_nextPass_37 rfl (lv_at hl424 0 rfl) ?_
          refine lv_iload_n hx hb dX10_nextPass_38 rfl (lv_at hl424 1 rfl) ?_
          refine lv_iload hx hb dX10_nextPass_39 (lv_at hl424 4 rfl) ?_
          refine x_V (As := [.int x1, .int x427]) (rest := []) C (a_X10_unlikeBy l K G H422 (x1) (x427) (sz) hTH422 ga0 (by omega) (by omega) gslq cy428_0 cy428_1 gy428_CG (by omega)) yo_X10_unlikeBy wM_X10_384 ⟨⟨by decide, by decide⟩, by decide, by decide⟩ (x_rv C hTH422 (ci := 10) rfl ga0 rg_112) rfl hl424.1 rfl (Nat.le_of_ble_eq_true rfl) dX10_nextPass_41 hSH422 (AE_sub (fun _ _ => rfl) (by decide) hSH422.1) (fun vH449 H449 locsH449 pH449 zH449 kH449 hSH449 => ?_)
          obtain ⟨x450, hvH449, hTH449⟩ := pH449
          subst hvH449
          have g451 : CG (avw K H449 a0) := CG.congr (fun k hk j => av_eff hTH422 kH449 ga0 (by decide) (CG_eff [114, 115, 153, 140, 139] (by decide) k hk)) gy428_CG
          have m452 := (cy428_0).trans (fR_kept (x_lt hTH422 kH449 ga0 (by decide))).symm
          have m453 := (cy428_1).trans (fI_kept (x_lt hTH422 kH449 gslq (by decide))).symm
          have m454 := (eq443).trans (fR_kept (x_lt hTH422 kH449 ga0 (by decide))).symm
          refine W.eq (g2 := F0 m 44 ls423 [.int x450]) rfl ?_
          refine lv_istore (lv' := [(5, .int x450), (0, .ref a0), (1, .int x1), (2, .int x425), (3, .int x426), (4, .int x427)]) hx hb dX10_nextPass_44 hl424 (by decide) rfl (fun ls455 hl456 => ?_)
          refine lv_iload hx hb dX10_nextPass_46 (lv_at hl456 0 rfl) ?_
          refine lv_iload_n hx hb dX10_nextPass_48 rfl (lv_at hl456 4 rfl) ?_
          refine lv_icmp_gt (tgt := 55) hx hb dX10_nextPass_49 (by decide) (fun c457 => ?_) (fun c457 => ?_)
          · have k458 := i_lt c457
            refine lv_iload hx hb dX10_nextPass_55 (lv_at hl456 5 rfl) ?_
            refine lv_istore_n (lv' := [(2, .int x427), (5, .int x450), (0, .ref a0), (1, .int x1), (3, .int x426), (4, .int x427)]) hx hb dX10_nextPass_57 rfl hl456 (by decide) rfl (fun ls459 hl460 => ?_)
            refine lv_iload hx hb dX10_nextPass_58 (lv_at hl460 1 rfl) ?_
            refine lv_istore_n (lv' := [(3, .int x450), (2, .int x427), (5, .int x450), (0, .ref a0), (1, .int x1), (4, .int x427)]) hx hb dX10_nextPass_60 rfl hl460 (by decide) rfl (fun ls461 hl462 => ?_)
            exact J61 ls461 H449 locsH449 (x427) (x450) (lv_sub hl462 [3, 4, 1, 0, 5] rfl) hTH449 hSH449 (by have := i_rng x427; omega) (by have := i_rng x450; omega) (by have := i_rng x427; omega) m452 m453 g451
          · have k458 := i_nlt c457
            refine lv_goto (tgt := 61) hx hb dX10_nextPass_52 (by decide) ?_
            exact J61 ls455 H449 locsH449 (x425) (x426) (lv_sub hl456 [1, 2, 3, 4, 5] rfl) hTH449 hSH449 (by have := i_rng x425; omega) (by have := i_rng x426; omega) (by have := i_rng x427; omega) m452 m453 g451
        · have k448 := i_nlt c447
          refine lv_goto (tgt := 61) hx hb dX10_nextPass_34 (by decide) ?_
          exact J61 ls423 H422 locsH422 (x425) (x426) (lv_sub hl424 [0, 1, 2, 3, 4] rfl) hTH422 hSH422 (by have := i_rng x425; omega) (by have := i_rng x426; omega) (by have := i_rng x427; omega) cy428_0 cy428_1 gy428_CG
  refine lv_iconst (v := (-1)) hx hb dX10_nextPass_0 (by decide) ?_
  refine lv_istore_n (lv' := [(2, .int (-1)), (0, .ref a0), (1, .int x1)]) hx hb dX10_nextPass_1 rfl hl (by decide) rfl (fun ls463 hl464 => ?_)
  refine lv_iconst (v := 0) hx hb dX10_nextPass_2 (by decide) ?_
  refine lv_istore_n (lv' := [(3, .int 0), (2, .int (-1)), (0, .ref a0), (1, .int x1)]) hx hb dX10_nextPass_3 rfl hl464 (by decide) rfl (fun ls465 hl466 => ?_)
  refine lv_iconst (v := 0) hx hb dX10_nextPass_4 (by decide) ?_
  refine lv_istore (lv' := [(4, .int 0), (3, .int 0), (2, .int (-1)), (0, .ref a0), (1, .int x1)]) hx hb dX10_nextPass_5 hl466 (by decide) rfl (fun ls467 hl468 => ?_)
  exact J7 ((5 - (0 : Int32).toInt).toNat + 1) ls467 s.heap [] ((-1)) (0) (0) (lv_sub hl468 [3, 4, 2, 1, 0] rfl) hT hS (by decide) (by decide) (by decide) eslq esz hg_CG (by omega)

