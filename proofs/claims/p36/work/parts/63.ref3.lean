/-! ===== bounds of an array's places; digits ===== -/
def AB (H : Heap) (q n : Nat) (lo hi : Int) : Prop := ∀ j : Nat, j < n → lo ≤ (fI H q j).toInt ∧ (fI H q j).toInt ≤ hi
theorem AB.kept {H H1 : Heap} {q n : Nat} {lo hi : Int} (e : ∀ j : Nat, fI H1 q j = fI H q j) (h : AB H q n lo hi) : AB H1 q n lo hi := fun j hj => by rw [e j]; exact h j hj
theorem AB.weak {H : Heap} {q n n' : Nat} {lo hi lo' hi' : Int} (h : AB H q n lo hi) (h1 : n' ≤ n) (h2 : lo' ≤ lo) (h3 : hi ≤ hi') : AB H q n' lo' hi' := fun j hj => by have := h j (by omega); omega
theorem AB.nil {H : Heap} {q : Nat} {lo hi : Int} : AB H q 0 lo hi := fun j hj => by omega
theorem AB.at {H : Heap} {q n : Nat} {lo hi : Int} {x j : Int32} (h : AB H q n lo hi) (e : x = fI H q j.toNatClampNeg) (hj : j.toNatClampNeg < n) : lo ≤ x.toInt ∧ x.toInt ≤ hi := by rw [e]; exact h _ hj
theorem AB.put {H H1 : Heap} {q n : Nat} {lo hi : Int} {i : Nat} {x : Int32} (w : Wr H H1 q i (.int x)) (hx : lo ≤ x.toInt ∧ x.toInt ≤ hi) (h : AB H q n lo hi) : AB H1 q n lo hi := by
  intro j hj
  by_cases e : j = i
  · subst e; rw [Wr.I w]; exact hx
  · rw [Wr.neI w (Or.inr e)]; exact h j hj
theorem AB.ext {H H1 : Heap} {q n m : Nat} {lo hi : Int} {i : Nat} {x : Int32} (w : Wr H H1 q i (.int x)) (hx : lo ≤ x.toInt ∧ x.toInt ≤ hi) (h : AB H q n lo hi) (hi' : i = n) (hm : m = n + 1) : AB H1 q m lo hi := by
  intro j hj
  by_cases e : j = i
  · subst e; rw [Wr.I w]; exact hx
  · rw [Wr.neI w (Or.inr e)]; exact h j (by omega)
def dval (f : Nat → Int32) (m : Nat) : Nat → Nat
  | 0 => 0
  | n + 1 => dval f m n * m + (f n).toInt.toNat
theorem dval_congr {f g : Nat → Int32} (h : ∀ j, f j = g j) {m n : Nat} : dval f m n = dval g m n := by rw [show f = g from funext h]
theorem dval_same {f g : Nat → Int32} {m : Nat} : ∀ n, (∀ j, j < n → f j = g j) → dval f m n = dval g m n := by
  intro n
  induction n with
  | zero => intro _; rfl
  | succ n ih => intro h; rw [dval, dval, ih (fun j hj => h j (by omega)), h n (by omega)]
theorem dval_lt {H : Heap} {q m n : Nat} {hi : Int} (h : AB H q n 0 hi) (hm : hi < (m : Int)) : dval (fun j => fI H q j) m n < m ^ n := by
  induction n with
  | zero => simp [dval]
  | succ n ih =>
    have h1 := ih (fun j hj => h j (by omega))
    have h2 := h n (by omega)
    rw [dval, Nat.pow_succ]
    have h3 : (fI H q n).toInt.toNat < m := by omega
    have h4 : (dval (fun j => fI H q j) m n + 1) * m ≤ m ^ n * m := Nat.mul_le_mul_right m h1
    rw [Nat.add_mul, Nat.one_mul] at h4
    show _ + (fI H q n).toInt.toNat < _
    omega
theorem pw_le {m n : Nat} (hm : m ≤ 4) (hn : n ≤ 5) : m ^ n ≤ 1024 := Nat.le_trans (Nat.pow_le_pow_left hm n) (Nat.le_trans (Nat.pow_le_pow_right (by decide) hn) (by decide))
theorem dval_zero {H : Heap} {q m n : Nat} (h : AB H q n 0 0) : dval (fun j => fI H q j) m n = 0 := by
  induction n with
  | zero => rfl
  | succ n ih =>
    have h2 := h n (by omega)
    rw [dval, ih (fun j hj => h j (by omega))]
    show 0 * m + (fI H q n).toInt.toNat = 0
    omega
/-- behind k the digits were the last ones and are 0 now -/
def GI (f0 f : Nat → Int32) (n k m : Int) : Prop := ∀ j : Nat, (j : Int) < n → (k < (j : Int) → (f0 j).toInt = m - 1 ∧ (f j).toInt = 0) ∧ ((j : Int) ≤ k → f j = f0 j)
theorem GI.nil {f : Nat → Int32} {n k m : Int} (hk : n ≤ k + 1) : GI f f n k m := fun j hj => ⟨fun h => by omega, fun _ => rfl⟩
theorem GI.step {f0 f f1 : Nat → Int32} {n k k' m : Int} {i : Nat} (h : GI f0 f n k m) (hi : (i : Int) = k) (hk : k < n) (hx : (f i).toInt = m - 1) (ho : ∀ j, j ≠ i → f1 j = f j) (h0 : (f1 i).toInt = 0) (hk' : k' = k - 1) : GI f0 f1 n k' m := by
  intro j hj
  by_cases e : j = i
  · subst e
    exact ⟨fun _ => ⟨by rw [← (h j hj).2 (by omega)]; exact hx, h0⟩, fun h1 => by omega⟩
  · rw [ho j e]
    exact ⟨fun h1 => (h j hj).1 (by omega), fun h1 => (h j hj).2 (by omega)⟩
theorem GI.inc {f0 f f1 : Nat → Int32} {n i m : Nat} {k mi : Int} (h : GI f0 f n k mi) (hm : mi = (m : Int)) (hm1 : 1 ≤ m) (hi : (i : Int) = k) (hk : i < n) (ho : ∀ j, j ≠ i → f1 j = f j) (h1 : (f1 i).toInt = (f i).toInt + 1) (hp : 0 ≤ (f i).toInt) : dval f1 m n = dval f0 m n + 1 := by
  have key : ∀ d, i + 1 + d ≤ n → dval f1 m (i + 1 + d) = dval f0 m (i + 1 + d) + 1 := by
    intro d
    induction d with
    | zero =>
      intro _
      have e1 : dval f1 m i = dval f0 m i := dval_same i (fun j hj => by rw [ho j (by omega)]; exact (h j (by omega)).2 (by omega))
      have e2 : f i = f0 i := (h i (by omega)).2 (by omega)
      show dval f1 m i * m + (f1 i).toInt.toNat = dval f0 m i * m + (f0 i).toInt.toNat + 1
      rw [e1, h1, e2]
      rw [e2] at hp
      omega
    | succ d ih =>
      intro hd
      have e3 := ih (by omega)
      have e4 := (h (i + 1 + d) (by omega)).1 (by omega)
      have e5 := ho (i + 1 + d) (by omega)
      show dval f1 m (i + 1 + d) * m + (f1 (i + 1 + d)).toInt.toNat = dval f0 m (i + 1 + d) * m + (f0 (i + 1 + d)).toInt.toNat + 1
      rw [e3, e5, e4.1, e4.2, Nat.add_mul]
      omega
  have := key (n - (i + 1)) (by omega)
  rw [show i + 1 + (n - (i + 1)) = n by omega] at this
  exact this
theorem GI.ab {H H0 : Heap} {q n : Nat} {k m : Int} {hi : Int} (h : GI (fun j => fI H0 q j) (fun j => fI H q j) n k m) (h0 : AB H0 q n 0 hi) (hh : 0 ≤ hi) : AB H q n 0 hi := by
  intro j hj
  have h1 := h j (by omega)
  have h2 := h0 j hj
  dsimp only at h1
  by_cases e : k < (j : Int)
  · have := (h1.1 e).2
    omega
  · rw [h1.2 (by omega)]
    exact h2
set_option maxHeartbeats 4000000 in
set_option maxRecDepth 100000 in
theorem a_X10_does (l : Launch) (K : KE) (G : Nat → Option Nat) (H : Heap) {a0 : Nat} (x1 : Int32) (x2 : Int32) {slq : Nat} {ofq : Nat} (sz : Int32) (hT : TY K G H) (ga0 : G a0 = some 112) (hx1 : 0 ≤ x1.toInt ∧ x1.toInt ≤ 9) (hx2 : 0 ≤ x2.toInt ∧ x2.toInt ≤ 5) (gslq : G slq = some 113) (eslq : slq = fR H a0 (K.1.2 10 4)) (gofq : G ofq = some 145) (eofq : ofq = fR H a0 (K.1.2 10 49)) (esz : sz = fI H slq (x1 : Int32).toNatClampNeg) (hp0 : sz.toInt ≤ 8) : MX l K yX10_does cX10_does 6 (some .boolean) 2 50 0 0 [.ref a0, .int x1, .int x2] H (AE G [145] H.size) (fun v H1 => ∃ (r : Int32), v = some (.int r) ∧ (0 ≤ r.toInt ∧ r.toInt ≤ 1) ∧ TY K G H1) := by
  refine MX.of (by decide +kernel) (Nat.le_of_ble_eq_true rfl) ?_
  intro p e s m below meth c ls Q C hH hl hQ
  subst hH
  have C : CX p K s m _ meth c RX10 cX10_does 6 (some .boolean) "does" := C
  obtain ⟨hx, hb, hml, hown, hts, hKT, hr, hlocks, hnm⟩ := id C
  have hl : lv_has ls 6 [(0, .ref a0), (1, .int x1), (2, .int x2)] := hl
  have hS : va_S (AE G [145] s.heap.size) s.heap s.heap [] := va_S.rf
  have n_0 : (0 : Int32).toInt = 0 := rfl
  have n_1 : (1 : Int32).toInt = 1 := rfl
  have n_2 : (2 : Int32).toInt = 2 := rfl
  have n_8 : (8 : Int32).toInt = 8 := rfl
  have n_16 : (16 : Int32).toInt = 16 := rfl
  have bsz := ty_ai (x := sz) esz hT gslq rg_113 (by omega)
  have hap : ∀ x y, x < 74 → y < 74 → x ≠ y → K.1.2 10 x ≠ K.1.2 10 y := x_apart hKT hts inX10 tyX10 tyX10_ok nmX10 rfl
  have J2 : ∀ (nf : Nat) (ls750 : Array Slot) (H749 : Heap) (locsH749 : List Loc) (x752 : Int32), lv_has ls750 6 [(0, .ref a0), (1, .int x1), (2, .int x2), (3, .int x752)] → TY K G H749 → va_S (AE G [145] s.heap.size) s.heap H749 locsH749 → (0 ≤ x752.toInt ∧ x752.toInt ≤ 8) → (slq = fR H749 a0 (K.1.2 10 4)) → (ofq = fR H749 a0 (K.1.2 10 49)) → (sz = fI H749 slq (x1 : Int32).toNatClampNeg) → (AB H749 ofq (x752.toNatClampNeg) (0) (0)) → (8 - x752.toInt < (nf : Int)) → W p l e ({ frames := 2, cells := 0, slots := 0, locals := 50 } : Room) s m (([.ref a0, .int x1, .int x2] : List Value).toArray) below meth c H749 locsH749 0 0 Q (F0 m 2 ls750 []) := by
    intro nf
    induction nf with
    | zero =>
      intro ls750 H749 locsH749 x752 hl751 hTH749 hSH749 bx752 cy753_0 cy753_1 cy753_2 by753_of hm2
      exfalso
      omega
    | succ nf ih2 =>
      intro ls750 H749 locsH749 x752 hl751 hTH749 hSH749 bx752 cy753_0 cy753_1 cy753_2 by753_of hm2
      have J30 : ∀ (nf : Nat) (ls755 : Array Slot) (H754 : Heap) (locsH754 : List Loc) (x757 : Int32) (x758 : Int32), lv_has ls755 6 [(0, .ref a0), (1, .int x1), (2, .int x2), (3, .int x757), (4, .int x758)] → TY K G H754 → va_S (AE G [145] s.heap.size) s.heap H754 locsH754 → (0 ≤ x757.toInt ∧ x757.toInt ≤ 2) → (0 ≤ x758.toInt ∧ x758.toInt ≤ 5) → (slq = fR H754 a0 (K.1.2 10 4)) → (ofq = fR H754 a0 (K.1.2 10 49)) → (sz = fI H754 slq (x1 : Int32).toNatClampNeg) → (AB H754 ofq (8) (0) (x758.toInt)) → (5 - x758.toInt < (nf : Int)) → W p l e ({ frames := 2, cells := 0, slots := 0, locals := 50 } : Room) s m (([.ref a0, .int x1, .int x2] : List Value).toArray) below meth c H754 locsH754 0 0 Q (F0 m 30 ls755 []) := by
        intro nf
        induction nf with
        | zero =>
          intro ls755 H754 locsH754 x757 x758 hl756 hTH754 hSH754 bx757 bx758 cy759_0 cy759_1 cy759_2 by759_of hm30
          exfalso
          omega
        | succ nf ih30 =>
          intro ls755 H754 locsH754 x757 x758 hl756 hTH754 hSH754 bx757 bx758 cy759_0 cy759_1 cy759_2 by759_of hm30
          have J113 : ∀ (ls761 : Array Slot) (H760 : Heap) (locsH760 : List Loc) (x763 : Int32), lv_has ls761 6 [] → TY K G H760 → va_S (AE G [145] s.heap.size) s.heap H760 locsH760 → (0 ≤ x763.toInt ∧ x763.toInt ≤ 1) → (slq = fR H760 a0 (K.1.2 10 4)) → (ofq = fR H760 a0 (K.1.2 10 49)) → (sz = fI H760 slq (x1 : Int32).toNatClampNeg) → W p l e ({ frames := 2, cells := 0, slots := 0, locals := 50 } : Room) s m (([.ref a0, .int x1, .int x2] : List Value).toArray) below meth c H760 locsH760 0 0 Q (F0 m 113 ls761 [.int x763]) := by
            intro ls761 H760 locsH760 x763 hl762 hTH760 hSH760 bx763 cy764_0 cy764_1 cy764_2
            exact x_zret C hQ (i_01 (by omega)) dX10_does_113 hSH760 (by decide) (by decide) (⟨x763, rfl, by omega, hTH760⟩)
          refine lv_iload hx hb dX10_does_30 (lv_at hl756 4 rfl) ?_
          refine lv_iload_n hx hb dX10_does_32 rfl (lv_at hl756 2 rfl) ?_
          refine lv_icmp_ge (tgt := 103) hx hb dX10_does_33 (by decide) (fun c765 => ?_) (fun c765 => ?_)
          · have k766 := i_le c765
            refine lv_iload_n hx hb dX10_does_103 rfl (lv_at hl756 3 rfl) ?_
            refine lv_iconst (v := 2) hx hb dX10_does_104 (by decide) ?_
            refine lv_icmp_ne (tgt := 112) hx hb dX10_does_105 (by decide) (fun c767 => ?_) (fun c767 => ?_)
            · have k768 := i_ne c767
              refine lv_iconst (v := 0) hx hb dX10_does_112 (by decide) ?_
              exact J113 ls755 H754 locsH754 (0) (lv_sub hl756 [] rfl) hTH754 hSH754 (by decide) cy759_0 cy759_1 cy759_2
            · have k768 := i_eq c767
              refine lv_iconst (v := 1) hx hb dX10_does_108 (by decide) ?_
              refine lv_goto (tgt := 113) hx hb dX10_does_109 (by decide) ?_
              exact J113 ls755 H754 locsH754 (1) (lv_sub hl756 [] rfl) hTH754 hSH754 (by decide) cy759_0 cy759_1 cy759_2
          · have k766 := i_nle c765
            refine lv_aload_n hx hb dX10_does_36 rfl (lv_at hl756 0 rfl) ?_
            refine x_gr C hTH754 (ci := 10) (k := 45) rfl inX10 (by decide) wF_X10_101 ga0 rg_112 rfl dX10_does_37 (fun q769 eq769 gq769 => ?_)
            refine lv_iload hx hb dX10_does_40 (lv_at hl756 4 rfl) ?_
            refine x_ai C hTH754 gq769 rg_141 ⟨by omega, by show _ < ((5 : Nat) : Int); omega⟩ dX10_does_42 (fun x770 ex770 bx770 => ?_)
            refine lv_istore (lv' := [(5, .int x770), (0, .ref a0), (1, .int x1), (2, .int x2), (3, .int x757), (4, .int x758)]) hx hb dX10_does_43 hl756 (by decide) rfl (fun ls771 hl772 => ?_)
            refine lv_aload_n hx hb dX10_does_45 rfl (lv_at hl772 1 rfl) ?_
            refine x_gr C hTH754 (ci := 10) (k := 49) rfl inX10 (by decide) wF_X10_113 ga0 rg_112 rfl dX10_does_46 (fun q773 eq773 gq773 => ?_)
            have uq773 : ofq = q773 := (cy759_1).trans eq773.symm
            subst uq773
            refine lv_iload hx hb dX10_does_49 (lv_at hl772 0 rfl) ?_
            refine lv_aload_n hx hb dX10_does_51 rfl (lv_at hl772 1 rfl) ?_
            refine x_gr C hTH754 (ci := 10) (k := 49) rfl inX10 (by decide) wF_X10_113 ga0 rg_112 rfl dX10_does_52 (fun q774 eq774 gq774 => ?_)
            have uq774 : ofq = q774 := (cy759_1).trans eq774.symm
            subst uq774
            refine lv_iload hx hb dX10_does_55 (lv_at hl772 0 rfl) ?_
            refine x_ai C hTH754 gofq rg_145 ⟨by omega, by show _ < ((8 : Nat) : Int); omega⟩ dX10_does_57 (fun x775 ex775 bx775 => ?_)
            have clx775 := i_cl (x := x770) (by omega)
            have abx775 := (by759_of).at ex775 (by omega)
            refine lv_iconst (v := 1) hx hb dX10_does_58 (by decide) ?_
            refine lv_iadd hx hb dX10_does_59 ?_
            refine lv_topi (fun x776 ex776 => ?_)
            have tx776 := i_add ex776 (by omega)
            refine x_iast C hTH754 hSH754 gofq rg_145 (by omega) (by show _ < ((8 : Nat) : Int); omega) ⟨by have := i_rng x776; omega, by have := i_rng x776; omega⟩ (AE_in gofq (by decide)) dX10_does_60 (fun H777 locsH777 hTH777 hSH777 wH777 => ?_)
            have b778 : AB H777 ofq (8) (0) (x758.toInt + 1) := (AB.put wH777 (by omega) (AB.weak by759_of (Nat.le_refl _) (by omega) (by omega)))
            have m779 := cy759_0.trans (Wr.neR wH777 (Or.inl (G_ne ga0 gofq (by decide)))).symm
            have m780 := cy759_1.trans (Wr.neR wH777 (Or.inl (G_ne ga0 gofq (by decide)))).symm
            have m781 := cy759_2.trans (Wr.neI wH777 (Or.inl (G_ne gslq gofq (by decide)))).symm
            have m782 := eq769.trans (Wr.neR wH777 (Or.inl (G_ne ga0 gofq (by decide)))).symm
            have m783 := ex770.trans (Wr.neI wH777 (Or.inl (G_ne gq769 gofq (by decide)))).symm
            have m785 := Wr.I wH777
            have m785 := m785.symm
            refine lv_aload_n hx hb dX10_does_61 rfl (lv_at hl772 1 rfl) ?_
            refine x_gr C hTH777 (ci := 10) (k := 5) rfl inX10 (by decide) wF_X10_17 ga0 rg_112 rfl dX10_does_62 (fun q786 eq786 gq786 => ?_)
            refine lv_bipush (v := 16) hx hb dX10_does_65 (by decide) ?_
            refine lv_iload_n hx hb dX10_does_67 rfl (lv_at hl772 2 rfl) ?_
            refine lv_imul hx hb dX10_does_68 ?_
            refine lv_topi (fun x787 ex787 => ?_)
            have tx787 := i_mul ex787 (by rw [n_16]; omega)
            rw [n_16] at tx787
            refine lv_iload hx hb dX10_does_69 (lv_at hl772 0 rfl) ?_
            refine lv_iadd hx hb dX10_does_71 ?_
            refine lv_topi (fun x788 ex788 => ?_)
            have tx788 := i_add ex788 (by omega)
            refine x_ai C hTH777 gq786 rg_114 ⟨by omega, by show _ < ((160 : Nat) : Int); omega⟩ dX10_does_72 (fun x789 ex789 bx789 => ?_)
            refine lv_aload_n hx hb dX10_does_73 rfl (lv_at hl772 1 rfl) ?_
            refine x_gr C hTH777 (ci := 10) (k := 49) rfl inX10 (by decide) wF_X10_113 ga0 rg_112 rfl dX10_does_74 (fun q790 eq790 gq790 => ?_)
            have uq790 : ofq = q790 := (m780).trans eq790.symm
            subst uq790
            refine lv_iload hx hb dX10_does_77 (lv_at hl772 0 rfl) ?_
            refine x_ai C hTH777 gofq rg_145 ⟨by omega, by show _ < ((8 : Nat) : Int); omega⟩ dX10_does_79 (fun x791 ex791 bx791 => ?_)
            have ux791 : x776 = x791 := (m785).trans ex791.symm
            subst ux791
            refine lv_icmp_gt (tgt := 85) hx hb dX10_does_80 (by decide) (fun c792 => ?_) (fun c792 => ?_)
            · have k793 := i_lt c792
              refine lv_aload_n hx hb dX10_does_85 rfl (lv_at hl772 1 rfl) ?_
              refine lv_iload_n hx hb dX10_does_86 rfl (lv_at hl772 2 rfl) ?_
              refine x_V (As := [.int x1]) (rest := []) C (a_X10_wouldBe l K G H777 (x1) (sz) hTH777 ga0 (by omega) gslq m779 m781 (by omega)) yo_X10_wouldBe wM_X10_359 ⟨⟨by decide, by decide⟩, by decide, by decide⟩ (x_rv C hTH777 (ci := 10) rfl ga0 rg_112) rfl hl772.1 rfl (Nat.le_of_ble_eq_true rfl) dX10_does_87 hSH777 (AE_sub (fun _ _ => rfl) (by decide) hSH777.1) (fun vH794 H794 locsH794 pH794 zH794 kH794 hSH794 => ?_)
              obtain ⟨x795, hvH794, bx795, hTH794⟩ := pH794
              subst hvH794
              have b796 : AB H794 ofq (8) (0) (x758.toInt + 1) := AB.kept (fun j => fI_kept (x_lt hTH777 kH794 gofq (by decide))) b778
              have m797 := (m779).trans (fR_kept (x_lt hTH777 kH794 ga0 (by decide))).symm
              have m798 := (m780).trans (fR_kept (x_lt hTH777 kH794 ga0 (by decide))).symm
              have m799 := (m781).trans (fI_kept (x_lt hTH777 kH794 gslq (by decide))).symm
              have m800 := (m782).trans (fR_kept (x_lt hTH777 kH794 ga0 (by decide))).symm
              have m801 := (m783).trans (fI_kept (x_lt hTH777 kH794 gq769 (by decide))).symm
              have m802 := (m785).trans (fI_kept (x_lt hTH777 kH794 gofq (by decide))).symm
              have m803 := (eq786).trans (fR_kept (x_lt hTH777 kH794 ga0 (by decide))).symm
              have m804 := (ex789).trans (fI_kept (x_lt hTH777 kH794 gq786 (by decide))).symm
              refine W.eq (g2 := F0 m 90 ls771 [.int x795]) rfl ?_
              refine lv_istore_n (lv' := [(3, .int x795), (5, .int x770), (0, .ref a0), (1, .int x1), (2, .int x2), (4, .int x758)]) hx hb dX10_does_90 rfl hl772 (by decide) rfl (fun ls805 hl806 => ?_)
              refine lv_iload_n hx hb dX10_does_91 rfl (lv_at hl806 0 rfl) ?_
              refine lv_if_ne (tgt := 97) hx hb dX10_does_92 (by decide) (fun c807 => ?_) (fun c807 => ?_)
              · have k808 := i_ne c807
                obtain ⟨x809, ex809⟩ : ∃ y : Int32, y = x758 + 1 := ⟨_, rfl⟩
                have tx809 := i_add ex809 (by omega)
                refine lv_iinc (v := x809) (lv' := [(4, .int x809), (3, .int x795), (5, .int x770), (0, .ref a0), (1, .int x1), (2, .int x2)]) hx hb dX10_does_97 hl806 (k := 5) rfl (by rw [ex809]; rfl) (by decide) rfl (fun ls810 hl811 => ?_)
                refine lv_goto (tgt := 30) hx hb dX10_does_100 (by decide) ?_
                exact ih30 ls810 H794 locsH794 (x795) (x809) (lv_sub hl811 [3, 4, 5, 1, 0] rfl) hTH794 hSH794 (by have := i_rng x795; omega) (by have := i_rng x809; omega) m797 m798 m799 (AB.weak b796 (by omega) (by omega) (by omega)) (by omega)
              · have k808 := i_eq c807
                refine lv_iconst (v := 0) hx hb dX10_does_95 (by decide) ?_
                exact x_zret C hQ (Or.inl rfl) dX10_does_96 hSH794 (by decide) (by decide) (⟨0, rfl, by decide, hTH794⟩)
            · have k793 := i_nlt c792
              refine lv_iconst (v := 0) hx hb dX10_does_83 (by decide) ?_
              exact x_zret C hQ (Or.inl rfl) dX10_does_84 hSH777 (by decide) (by decide) (⟨0, rfl, by decide, hTH777⟩)
      refine lv_iload_n hx hb dX10_does_2 rfl (lv_at hl751 3 rfl) ?_
      refine lv_bipush (v := 8) hx hb dX10_does_3 (by decide) ?_
      refine lv_icmp_ge (tgt := 21) hx hb dX10_does_5 (by decide) (fun c812 => ?_) (fun c812 => ?_)
      · have k813 := i_le c812
        refine lv_aload_n hx hb dX10_does_21 rfl (lv_at hl751 0 rfl) ?_
        refine lv_iload_n hx hb dX10_does_22 rfl (lv_at hl751 1 rfl) ?_
        refine x_V (As := [.int x1]) (rest := []) C (a_X10_wouldBe l K G H749 (x1) (sz) hTH749 ga0 (by omega) gslq cy753_0 cy753_2 (by omega)) yo_X10_wouldBe wM_X10_359 ⟨⟨by decide, by decide⟩, by decide, by decide⟩ (x_rv C hTH749 (ci := 10) rfl ga0 rg_112) rfl hl751.1 rfl (Nat.le_of_ble_eq_true rfl) dX10_does_23 hSH749 (AE_sub (fun _ _ => rfl) (by decide) hSH749.1) (fun vH814 H814 locsH814 pH814 zH814 kH814 hSH814 => ?_)
        obtain ⟨x815, hvH814, bx815, hTH814⟩ := pH814
        subst hvH814
        have b816 : AB H814 ofq (x752.toNatClampNeg) (0) (0) := AB.kept (fun j => fI_kept (x_lt hTH749 kH814 gofq (by decide))) by753_of
        have m817 := (cy753_0).trans (fR_kept (x_lt hTH749 kH814 ga0 (by decide))).symm
        have m818 := (cy753_1).trans (fR_kept (x_lt hTH749 kH814 ga0 (by decide))).symm
        have m819 := (cy753_2).trans (fI_kept (x_lt hTH749 kH814 gslq (by decide))).symm
        refine W.eq (g2 := F0 m 26 ls750 [.int x815]) rfl ?_
        refine lv_istore_n (lv' := [(3, .int x815), (0, .ref a0), (1, .int x1), (2, .int x2)]) hx hb dX10_does_26 rfl hl751 (by decide) rfl (fun ls820 hl821 => ?_)
        refine lv_iconst (v := 0) hx hb dX10_does_27 (by decide) ?_
        refine lv_istore (lv' := [(4, .int 0), (3, .int x815), (0, .ref a0), (1, .int x1), (2, .int x2)]) hx hb dX10_does_28 hl821 (by decide) rfl (fun ls822 hl823 => ?_)
        have cl_x752 := i_cl (x := x752) (by omega)
        exact J30 ((5 - (0 : Int32).toInt).toNat + 1) ls822 H814 locsH814 (x815) (0) (lv_sub hl823 [2, 3, 4, 1, 0] rfl) hTH814 hSH814 (by have := i_rng x815; omega) (by decide) m817 m818 m819 (AB.weak b816 (by omega) (by omega) (by omega)) (by omega)
      · have k813 := i_nle c812
        refine lv_aload_n hx hb dX10_does_8 rfl (lv_at hl751 0 rfl) ?_
        refine x_gr C hTH749 (ci := 10) (k := 49) rfl inX10 (by decide) wF_X10_113 ga0 rg_112 rfl dX10_does_9 (fun q824 eq824 gq824 => ?_)
        have uq824 : ofq = q824 := (cy753_1).trans eq824.symm
        subst uq824
        refine lv_iload_n hx hb dX10_does_12 rfl (lv_at hl751 3 rfl) ?_
        refine lv_iconst (v := 0) hx hb dX10_does_13 (by decide) ?_
        refine x_iast C hTH749 hSH749 gofq rg_145 (by omega) (by show _ < ((8 : Nat) : Int); omega) (by decide) (AE_in gofq (by decide)) dX10_does_14 (fun H825 locsH825 hTH825 hSH825 wH825 => ?_)
        have cjH825 := i_cl (x := x752) (by omega)
        have b827 : AB H825 ofq (x752.toNatClampNeg + 1) (0) (0) := (AB.ext wH825 (by decide) by753_of (by omega) rfl)
        have m828 := cy753_0.trans (Wr.neR wH825 (Or.inl (G_ne ga0 gofq (by decide)))).symm
        have m829 := cy753_1.trans (Wr.neR wH825 (Or.inl (G_ne ga0 gofq (by decide)))).symm
        have m830 := cy753_2.trans (Wr.neI wH825 (Or.inl (G_ne gslq gofq (by decide)))).symm
        have m831 := Wr.I wH825
        obtain ⟨x832, ex832⟩ : ∃ y : Int32, y = x752 + 1 := ⟨_, rfl⟩
        have tx832 := i_add ex832 (by omega)
        refine lv_iinc (v := x832) (lv' := [(3, .int x832), (0, .ref a0), (1, .int x1), (2, .int x2)]) hx hb dX10_does_15 hl751 (k := 3) rfl (by rw [ex832]; rfl) (by decide) rfl (fun ls833 hl834 => ?_)
        refine lv_goto (tgt := 2) hx hb dX10_does_18 (by decide) ?_
        have cl_x752 := i_cl (x := x752) (by omega)
        have cl_x832 := i_cl (x := x832) (by omega)
        exact ih2 ls833 H825 locsH825 (x832) (lv_sub hl834 [1, 2, 3, 0] rfl) hTH825 hSH825 (by have := i_rng x832; omega) m828 m829 m830 (AB.weak b827 (by omega) (by omega) (by omega)) (by omega)
  refine lv_iconst (v := 0) hx hb dX10_does_0 (by decide) ?_
  refine lv_istore_n (lv' := [(3, .int 0), (0, .ref a0), (1, .int x1), (2, .int x2)]) hx hb dX10_does_1 rfl hl (by decide) rfl (fun ls835 hl836 => ?_)
  have cl_0 := i_cl (x := (0 : Int32)) (by omega)
  exact J2 ((8 - (0 : Int32).toInt).toNat + 1) ls835 s.heap [] (0) (lv_sub hl836 [1, 2, 3, 0] rfl) hT hS (by decide) eslq eofq esz (AB.weak (AB.nil (H := s.heap) (q := ofq) (lo := 0) (hi := 0)) (by omega) (by omega) (by omega)) (by omega)

set_option maxHeartbeats 4000000 in
set_option maxRecDepth 100000 in
theorem a_X10_goesOn (l : Launch) (K : KE) (G : Nat → Option Nat) (H : Heap) {a0 : Nat} (x1 : Int32) (x2 : Int32) {rq : Nat} (hT : TY K G H) (ga0 : G a0 = some 112) (hx1 : 0 ≤ x1.toInt ∧ x1.toInt ≤ 5) (hx2 : 1 ≤ x2.toInt ∧ x2.toInt ≤ 8) (grq : G rq = some 141) (erq : rq = fR H a0 (K.1.2 10 45)) (hb_rw : AB H rq (x1.toNatClampNeg) (0) (x2.toInt - 1)) : MX l K yX10_goesOn cX10_goesOn 4 (some .boolean) 0 0 0 0 [.ref a0, .int x1, .int x2] H (AE G [141] H.size) (fun v H1 => ∃ (r : Int32), v = some (.int r) ∧ (0 ≤ r.toInt ∧ r.toInt ≤ 1) ∧ (AB H1 rq (x1.toNatClampNeg) (0) (x2.toInt - 1)) ∧ (r.toInt = 0 ∨ dval (fun j => fI H1 rq j) x2.toNatClampNeg x1.toNatClampNeg = dval (fun j => fI H rq j) x2.toNatClampNeg x1.toNatClampNeg + 1) ∧ TY K G H1) := by
  refine MX.of (by decide +kernel) (Nat.le_of_ble_eq_true rfl) ?_
  intro p e s m below meth c ls Q C hH hl hQ
  subst hH
  have C : CX p K s m _ meth c RX10 cX10_goesOn 4 (some .boolean) "goesOn" := C
  obtain ⟨hx, hb, hml, hown, hts, hKT, hr, hlocks, hnm⟩ := id C
  have hl : lv_has ls 4 [(0, .ref a0), (1, .int x1), (2, .int x2)] := hl
  have hS : va_S (AE G [141] s.heap.size) s.heap s.heap [] := va_S.rf
  have n_0 : (0 : Int32).toInt = 0 := rfl
  have n_1 : (1 : Int32).toInt = 1 := rfl
  have hap : ∀ x y, x < 74 → y < 74 → x ≠ y → K.1.2 10 x ≠ K.1.2 10 y := x_apart hKT hts inX10 tyX10 tyX10_ok nmX10 rfl
  have hx1n := i_cl (x := x1) (by omega)
  have hx2n := i_cl (x := x2) (by omega)
  have J4 : ∀ (nf : Nat)  (ls226 : Array Slot) (H225 : Heap) (locsH225 : List Loc) (x228 : Int32), lv_has ls226 4 [(0, .ref a0), (2, .int x2), (3, .int x228)] → TY K G H225 → va_S (AE G [141] s.heap.size) s.heap H225 locsH225 → ((-1) ≤ x228.toInt ∧ x228.toInt ≤ 4) → (rq = fR H225 a0 (K.1.2 10 45)) → (x228.toInt - (-1) < (nf : Int)) → (x228.toInt < x1.toInt) → (GI (fun j => fI s.heap rq j) (fun j => fI H225 rq j) (x1.toNatClampNeg : Int) x228.toInt x2.toInt) → W p l e ({ frames := 0, cells := 0, slots := 0, locals := 0 } : Room) s m (([.ref a0, .int x1, .int x2] : List Value).toArray) below meth c H225 locsH225 0 0 Q (F0 m 4 ls226 []) := by
    intro nf
    induction nf with
    | zero =>
      intro  ls226 H225 locsH225 x228 hl227 hTH225 hSH225 bx228 cy229_0 hm4 iv4 hgi
      exfalso
      omega
    | succ nf ih4 =>
      intro  ls226 H225 locsH225 x228 hl227 hTH225 hSH225 bx228 cy229_0 hm4 iv4 hgi
      have hab := GI.ab hgi hb_rw (by omega)
      refine lv_iload_n hx hb dX10_goesOn_4 rfl (lv_at hl227 2 rfl) ?_
      refine lv_if_lt (tgt := 34) hx hb dX10_goesOn_5 (by decide) (fun c230 => ?_) (fun c230 => ?_)
      · have k231 := i_lt c230
        refine lv_iload_n hx hb dX10_goesOn_34 rfl (lv_at hl227 2 rfl) ?_
        refine lv_if_ge (tgt := 40) hx hb dX10_goesOn_35 (by decide) (fun c232 => ?_) (fun c232 => ?_)
        · have k233 := i_le c232
          exfalso
          omega
        · have k233 := i_nle c232
          refine lv_iconst (v := 0) hx hb dX10_goesOn_38 (by decide) ?_
          exact x_zret C hQ (Or.inl rfl) dX10_goesOn_39 hSH225 (by decide) (by decide) (⟨0, rfl, by decide, hab, Or.inl rfl, hTH225⟩)
      · have k231 := i_nlt c230
        refine lv_aload_n hx hb dX10_goesOn_8 rfl (lv_at hl227 0 rfl) ?_
        refine x_gr C hTH225 (ci := 10) (k := 45) rfl inX10 (by decide) wF_X10_101 ga0 rg_112 rfl dX10_goesOn_9 (fun q234 eq234 gq234 => ?_)
        have uq234 : rq = q234 := (cy229_0).trans eq234.symm
        subst uq234
        refine lv_iload_n hx hb dX10_goesOn_12 rfl (lv_at hl227 2 rfl) ?_
        refine x_ai C hTH225 grq rg_141 ⟨by omega, by show _ < ((5 : Nat) : Int); omega⟩ dX10_goesOn_13 (fun x235 ex235 bx235 => ?_)
        have clx235 := i_cl (x := x228) (by omega)
        have abx235 := (hab).at ex235 (by omega)
        refine lv_iload_n hx hb dX10_goesOn_14 rfl (lv_at hl227 1 rfl) ?_
        refine lv_iconst (v := 1) hx hb dX10_goesOn_15 (by decide) ?_
        refine lv_isub hx hb dX10_goesOn_16 ?_
        refine lv_topi (fun x236 ex236 => ?_)
        have tx236 := i_sub ex236 (by omega)
        refine lv_icmp_ne (tgt := 34) hx hb dX10_goesOn_17 (by decide) (fun c237 => ?_) (fun c237 => ?_)
        · have k238 := i_ne c237
          refine lv_iload_n hx hb dX10_goesOn_34 rfl (lv_at hl227 2 rfl) ?_
          refine lv_if_ge (tgt := 40) hx hb dX10_goesOn_35 (by decide) (fun c239 => ?_) (fun c239 => ?_)
          · have k240 := i_le c239
            have ck := i_cl (x := x228) (by omega)
            refine lv_aload_n hx hb dX10_goesOn_40 rfl (lv_at hl227 0 rfl) ?_
            refine x_gr C hTH225 (ci := 10) (k := 45) rfl inX10 (by decide) wF_X10_101 ga0 rg_112 rfl dX10_goesOn_41 (fun q241 eq241 gq241 => ?_)
            have uq241 : rq = q241 := (cy229_0).trans eq241.symm
            subst uq241
            refine lv_iload_n hx hb dX10_goesOn_44 rfl (lv_at hl227 2 rfl) ?_
            refine lv_aload_n hx hb dX10_goesOn_45 rfl (lv_at hl227 0 rfl) ?_
            refine x_gr C hTH225 (ci := 10) (k := 45) rfl inX10 (by decide) wF_X10_101 ga0 rg_112 rfl dX10_goesOn_46 (fun q242 eq242 gq242 => ?_)
            have uq242 : rq = q242 := (cy229_0).trans eq242.symm
            subst uq242
            refine lv_iload_n hx hb dX10_goesOn_49 rfl (lv_at hl227 2 rfl) ?_
            refine x_ai C hTH225 grq rg_141 ⟨by omega, by show _ < ((5 : Nat) : Int); omega⟩ dX10_goesOn_50 (fun x243 ex243 bx243 => ?_)
            have ux243 : x235 = x243 := (ex235).trans ex243.symm
            subst ux243
            refine lv_iconst (v := 1) hx hb dX10_goesOn_51 (by decide) ?_
            refine lv_iadd hx hb dX10_goesOn_52 ?_
            refine lv_topi (fun x244 ex244 => ?_)
            have tx244 := i_add ex244 (by omega)
            refine x_iast C hTH225 hSH225 grq rg_141 (by omega) (by show _ < ((5 : Nat) : Int); omega) ⟨by have := i_rng x244; omega, by have := i_rng x244; omega⟩ (AE_in grq (by decide)) dX10_goesOn_53 (fun H245 locsH245 hTH245 hSH245 wH245 => ?_)
            have m246 := cy229_0.trans (Wr.neR wH245 (Or.inl (G_ne ga0 grq (by decide)))).symm
            have m248 := Wr.I wH245
            have m248 := m248.symm
            refine lv_iconst (v := 1) hx hb dX10_goesOn_54 (by decide) ?_
            exact x_zret C hQ (Or.inr rfl) dX10_goesOn_55 hSH245 (by decide) (by decide) (⟨1, rfl, by decide, AB.put wH245 (by omega) hab, Or.inr (GI.inc (n := x1.toNatClampNeg) (m := x2.toNatClampNeg) (i := x228.toNatClampNeg) hgi (by omega) (by omega) (by omega) (by omega) (fun j hj => Wr.neI wH245 (Or.inr hj)) (by show (fI _ rq _).toInt = (fI _ rq _).toInt + 1; rw [Wr.I wH245, ← ex235]; omega) (by show 0 ≤ (fI _ rq _).toInt; rw [← ex235]; omega)), hTH245⟩)
          · have k240 := i_nle c239
            exfalso
            omega
        · have k238 := i_eq c237
          refine lv_aload_n hx hb dX10_goesOn_20 rfl (lv_at hl227 0 rfl) ?_
          refine x_gr C hTH225 (ci := 10) (k := 45) rfl inX10 (by decide) wF_X10_101 ga0 rg_112 rfl dX10_goesOn_21 (fun q249 eq249 gq249 => ?_)
          have uq249 : rq = q249 := (cy229_0).trans eq249.symm
          subst uq249
          refine lv_iload_n hx hb dX10_goesOn_24 rfl (lv_at hl227 2 rfl) ?_
          refine lv_iconst (v := 0) hx hb dX10_goesOn_25 (by decide) ?_
          refine x_iast C hTH225 hSH225 grq rg_141 (by omega) (by show _ < ((5 : Nat) : Int); omega) (by decide) (AE_in grq (by decide)) dX10_goesOn_26 (fun H250 locsH250 hTH250 hSH250 wH250 => ?_)
          have m251 := cy229_0.trans (Wr.neR wH250 (Or.inl (G_ne ga0 grq (by decide)))).symm
          have m253 := Wr.I wH250
          refine lv_iload_n hx hb dX10_goesOn_27 rfl (lv_at hl227 2 rfl) ?_
          refine lv_iconst (v := 1) hx hb dX10_goesOn_28 (by decide) ?_
          refine lv_isub hx hb dX10_goesOn_29 ?_
          refine lv_topi (fun x254 ex254 => ?_)
          have tx254 := i_sub ex254 (by omega)
          refine lv_istore_n (lv' := [(3, .int x254), (0, .ref a0), (2, .int x2)]) hx hb dX10_goesOn_30 rfl hl227 (by decide) rfl (fun ls255 hl256 => ?_)
          refine lv_goto (tgt := 4) hx hb dX10_goesOn_31 (by decide) ?_
          have ck := i_cl (x := x228) (by omega)
          exact ih4  ls255 H250 locsH250 (x254) (lv_sub hl256 [1, 2, 0] rfl) hTH250 hSH250 (by have := i_rng x254; omega) m251 (by omega) (by omega) (GI.step hgi (i := x228.toNatClampNeg) (by omega) (by omega) (by show (fI _ rq _).toInt = _; rw [← ex235]; omega) (fun j hj => Wr.neI wH250 (Or.inr hj)) (by show (fI _ rq _).toInt = 0; rw [Wr.I wH250]; rfl) (by omega))
  refine lv_iload_n hx hb dX10_goesOn_0 rfl (lv_at hl 1 rfl) ?_
  refine lv_iconst (v := 1) hx hb dX10_goesOn_1 (by decide) ?_
  refine lv_isub hx hb dX10_goesOn_2 ?_
  refine lv_topi (fun x257 ex257 => ?_)
  have tx257 := i_sub ex257 (by omega)
  refine lv_istore_n (lv' := [(3, .int x257), (0, .ref a0), (1, .int x1), (2, .int x2)]) hx hb dX10_goesOn_3 rfl hl (by decide) rfl (fun ls258 hl259 => ?_)
  exact J4 ((x257.toInt - (-1)).toNat + 1)  ls258 s.heap [] (x257) (lv_sub hl259 [1, 3, 0] rfl) hT hS (by have := i_rng x257; omega) erq (by omega) (by omega) (GI.nil (by omega))
