/-- what omega shall not see -/
def HD (p : Prop) : Prop := p
theorem HD.mk {p : Prop} (h : p) : HD p := h
theorem HD.out {p : Prop} (h : HD p) : p := h
def PQ (f : Nat → Int32) (n : Nat) (o k : Int) (b : Nat) (d : Int) : Prop := PD f n ∧ (cO f n : Int) ≤ o ∧ (cK f n : Int) = k ∧ cB f n = b ∧ (d = 1 ∨ n = 0 ∨ (f (n - 1)).toInt ≠ 9)
theorem PQ.congr {f f1 : Nat → Int32} {n : Nat} {o k d : Int} {b : Nat} (e : ∀ j, f1 j = f j) (h : PQ f n o k b d) : PQ f1 n o k b d := by rw [show f1 = f from funext e]; exact h
theorem PQ.cast {f : Nat → Int32} {n n' : Nat} {o k d o' k' d' : Int} {b b' : Nat} (h : PQ f n o k b d) (hn : n' = n) (ho : o ≤ o') (hk : k' = k) (hb : b' = b) (hd : d' = d) : PQ f n' o' k' b' d' := by
  rw [hn, hk, hb, hd]
  exact ⟨h.1, Int.le_trans h.2.1 ho, h.2.2⟩
theorem PQ.push {f f1 : Nat → Int32} {n m : Nat} {o k d o' k' v : Int} {b b' : Nat} (h : PQ f n o k b d) (hx : (f1 n).toInt = v) (ho : ∀ j, j ≠ n → f1 j = f j) (hm : m = n + 1)
    (hv : (v = 9 ∧ o' = o + 1 ∧ k' = k ∧ b' = b) ∨ (v = 12 ∧ o' = o + 1 ∧ k' = k + 1 ∧ b' = b) ∨ (v = 10 ∧ o' = o ∧ k' = k ∧ b' = b + 1 ∧ (n = 0 ∨ (f (n - 1)).toInt = 11 ∨ (f (n - 1)).toInt = 12)) ∨ (v = 11 ∧ o' = o ∧ k' = k ∧ b' = b + 1 ∧ (n = 0 ∨ (f (n - 1)).toInt = 12))) : PQ f1 m o' k' b' 1 := by
  have e : ∀ j, j < n → f1 j = f j := fun j hj => ho j (by omega)
  have c1 := cO_congr n e
  have c2 := cB_congr n e
  have c3 := cK_congr n e
  have hs := c_step (f := f1) (n := n) (m := m) hm
  obtain ⟨p1, p2, p3, p4, -⟩ := h
  refine ⟨p1.push e hm (by omega), ?_, ?_, ?_, Or.inl rfl⟩
  · rcases hv with q | q | q | q
    · have := hs.1 (by omega); omega
    · have := hs.2.2 (by omega); omega
    · have := hs.2.1 (by omega); omega
    · have := hs.2.1 (by omega); omega
  · rcases hv with q | q | q | q
    · have := hs.1 (by omega); omega
    · have := hs.2.2 (by omega); omega
    · have := hs.2.1 (by omega); omega
    · have := hs.2.1 (by omega); omega
  · rcases hv with q | q | q | q
    · have := hs.1 (by omega); omega
    · have := hs.2.2 (by omega); omega
    · have := hs.2.1 (by omega); omega
    · have := hs.2.1 (by omega); omega
theorem PQ.settle {f : Nat → Int32} {n n' : Nat} {o k d o' w : Int} {b : Nat} (h : PQ f n o k b d) (hn : n' ≤ n) (hO : (cO f n' : Int) ≤ o') (hK : cK f n' = cK f n) (hw : w = 9 ∨ w = 10 ∨ w = 11) (ht : n' = 0 ∨ (f (n' - 1)).toInt ≠ w) (hl : n' = n ∨ (f n').toInt = w) (hd : w = 9 ∨ d ≠ 1) : PQ f n' o' k (cB f n') 0 := by
  obtain ⟨p1, p2, p3, p4, p5⟩ := h
  refine ⟨p1.pre hn, hO, by rw [hK]; exact p3, rfl, Or.inr ?_⟩
  rcases hl with q | q
  · subst q
    omega
  · by_cases z : n' = n
    · subst z
      omega
    · have := p1 n' (by omega)
      omega
theorem PQ.top10 {f : Nat → Int32} {n : Nat} {o k : Int} {b : Nat} (h : PQ f n o k b 0) (ht : n = 0 ∨ (f (n - 1)).toInt ≠ 10) : n = 0 ∨ (f (n - 1)).toInt = 11 ∨ (f (n - 1)).toInt = 12 := by
  obtain ⟨p1, -, -, -, p5⟩ := h
  by_cases z : n = 0
  · exact Or.inl z
  · have := p1 (n - 1) (by omega)
    omega
theorem PQ.top11 {f : Nat → Int32} {n n' : Nat} {o k : Int} {b : Nat} (h : PQ f n o k b 0) (h1 : n = 0 ∨ (f (n - 1)).toInt = 11 ∨ (f (n - 1)).toInt = 12) (hn : n' ≤ n) (hl : n' = n ∨ (f n').toInt = 11) (ht : n' = 0 ∨ (f (n' - 1)).toInt ≠ 11) : n' = 0 ∨ (f (n' - 1)).toInt = 12 := by
  by_cases z : n' = n
  · subst z; omega
  · have := h.1 n' (by omega)
    omega
theorem PQ.pop12 {f : Nat → Int32} {n m : Nat} {o k d o' k' : Int} {b : Nat} (h : PQ f n o k b d) (ht : (f m).toInt = 12) (hm : n = m + 1) (ho : o' = o - 1) (hk : k' = k - 1) : PQ f m o' k' b 1 := by
  obtain ⟨p1, p2, p3, p4, -⟩ := h
  have hs := (c_step (f := f) (n := m) (m := n) hm).2.2 ht
  exact ⟨p1.pre (by omega), by omega, by omega, by omega, Or.inl rfl⟩
theorem cK_le {f : Nat → Int32} : ∀ n : Nat, cK f n ≤ cO f n := by
  intro n
  induction n with
  | zero => exact Nat.le_refl _
  | succ n ih =>
    rw [cK, cO]
    by_cases h : (f n).toInt = 12
    · rw [if_pos h, if_pos (Or.inr h)]; omega
    · rw [if_neg h]; split <;> omega
