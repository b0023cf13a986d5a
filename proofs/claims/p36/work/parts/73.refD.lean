theorem WF.keep2 {f g f1 g1 : Nat → Int32} {a z D E : Nat} (h : WF f g a z D E) (hf : ∀ j, a ≤ j → j < z → f1 j = f j) (hg : ∀ j, a ≤ j → j < z → g1 j = g j) : WF f1 g1 a z D E := by
  obtain ⟨d, h1, h2, h3⟩ := h
  refine ⟨d, h1, h2, fun k ha hz => ?_⟩
  have h4 := h3 k ha hz
  rw [hf k ha hz, hg k ha hz]
  by_cases e : a < k
  · rw [hf (k - 1) (by omega) (by omega), hg (k - 1) (by omega) (by omega)]
    exact h4
  · omega
theorem WF.move {f g f1 g1 : Nat → Int32} {A B x y D E : Nat} (h : WF f g (A + x) (A + y) D E) (hf : ∀ t, x ≤ t → t < y → f1 (B + t) = f (A + t)) (hg : ∀ t, x ≤ t → t < y → g1 (B + t) = g (A + t)) : WF f1 g1 (B + x) (B + y) D E := by
  obtain ⟨d, h1, h2, h3⟩ := h
  refine ⟨fun k => d (k - B + A), ?_, ?_, fun k ha hz => ?_⟩
  · show d (B + x - B + A) = D
    rw [show B + x - B + A = A + x by omega]; exact h1
  · show d (B + y - B + A) = E
    rw [show B + y - B + A = A + y by omega]; exact h2
  · obtain ⟨t, rfl⟩ : ∃ t, k = B + t := ⟨k - B, by omega⟩
    have h4 := h3 (A + t) (by omega) (by omega)
    have e1 : B + t - B + A = A + t := by omega
    have e2 : B + t + 1 - B + A = A + t + 1 := by omega
    dsimp only
    rw [e1, e2, hf t (by omega) (by omega), hg t (by omega) (by omega)]
    by_cases e : x < t
    · have e3 : B + t - 1 = B + (t - 1) := by omega
      have e4 : A + t - 1 = A + (t - 1) := by omega
      rw [e3, hf (t - 1) (by omega) (by omega), hg (t - 1) (by omega) (by omega)]
      rw [e4] at h4
      rcases h4 with q | q | q | ⟨q1, q2, q3, q4, q5, q6⟩
      · exact Or.inl q
      · exact Or.inr (Or.inl q)
      · exact Or.inr (Or.inr (Or.inl q))
      · refine Or.inr (Or.inr (Or.inr ⟨q1, q2, q3, q4, q5, q6.imp id (fun z => ⟨by omega, z.2⟩)⟩))
    · rcases h4 with q | q | q | ⟨q1, q2, q3, q4, q5, q6⟩
      · exact Or.inl q
      · exact Or.inr (Or.inl q)
      · exact Or.inr (Or.inr (Or.inl q))
      · refine Or.inr (Or.inr (Or.inr ⟨q1, q2, q3, q4, q5, q6.imp id (fun z => ?_)⟩))
        have := z.1
        omega
/-- the places b .. b + n - 1 are those of s on, the others as they were -/
def CP (f f0 : Nat → Int32) (b s n : Nat) : Prop := (∀ t, t < n → f (b + t) = f0 (s + t)) ∧ ∀ j, j < b ∨ b + n ≤ j → f j = f0 j
theorem CP.rf {f : Nat → Int32} {b s n : Nat} (hn : n = 0) : CP f f b s n := ⟨fun t h => by omega, fun _ _ => rfl⟩
theorem CP.congr {f f0 f1 : Nat → Int32} {b s n : Nat} (e : ∀ j, f1 j = f j) (h : CP f f0 b s n) : CP f1 f0 b s n := by rw [show f1 = f from funext e]; exact h
theorem CP.cast {f f0 : Nat → Int32} {b s n b' s' n' : Nat} (h : CP f f0 b s n) (hb : b' = b) (hs : s' = s) (hn : n' = n) : CP f f0 b' s' n' := by rw [hb, hs, hn]; exact h
theorem CP.step {f f0 f1 : Nat → Int32} {b s n i k : Nat} {x : Int32} (h : CP f f0 b s n) (hi : i = b + n) (hs : b + n ≤ s) (hk : k = s + n) (hx : x = f k) (h1 : f1 i = x) (h2 : ∀ j, j ≠ i → f1 j = f j) : CP f1 f0 b s (n + 1) := by
  subst hk hi
  refine ⟨fun t ht => ?_, fun j hj => ?_⟩
  · by_cases e : t = n
    · subst e
      rw [h1, hx]
      exact h.2 _ (Or.inr (by omega))
    · rw [h2 _ (by omega)]
      exact h.1 t (by omega)
  · rw [h2 j (by omega)]
    exact h.2 j (by omega)
theorem CG.fin {K : KE} {G : Nat → Option Nat} {Hc H : Heap} {b f9 f0 f1 oq aq mq row n i : Nat} {m : Int} (hT : TY K G Hc) (gb : G b = some 112)
    (em : mq = fR Hc b (K.1.2 10 24)) (e9 : f9 = fR Hc b (K.1.2 10 29)) (e0 : f0 = fR Hc b (K.1.2 10 30)) (e1 : f1 = fR Hc b (K.1.2 10 31)) (eo : oq = fR Hc b (K.1.2 10 32)) (ea : aq = fR Hc b (K.1.2 10 33))
    (dm : mq = fR H b (K.1.2 10 24)) (d9 : f9 = fR H b (K.1.2 10 29)) (d0 : f0 = fR H b (K.1.2 10 30)) (d1 : f1 = fR H b (K.1.2 10 31)) (dO : oq = fR H b (K.1.2 10 32)) (dA : aq = fR H b (K.1.2 10 33))
    (cg : CG (avw K Hc b)) (dl : DL (fun k => fI Hc f9 k) (fun k => fI Hc f0 k) (fun k => fI Hc f1 k) (fun k => fI Hc oq k) (fun k => fI Hc aq k) n m) (hn : n ≤ 16) (hrow : row < 6) (hi : m ≤ (i : Int)) (hi5 : i ≤ 500)
    (c9 : CP (fun k => fI H f9 k) (fun k => fI Hc f9 k) (16 * row) 96 n) (c0 : CP (fun k => fI H f0 k) (fun k => fI Hc f0 k) (16 * row) 96 n) (c1 : CP (fun k => fI H f1 k) (fun k => fI Hc f1 k) (16 * row) 96 n)
    (co : CP (fun k => fI H oq k) (fun k => fI Hc oq k) (500 * row) 3000 i) (ca : CP (fun k => fI H aq k) (fun k => fI Hc aq k) (500 * row) 3000 i)
    (cm : (fI H mq row).toInt = (n : Int)) (cn : ∀ j, j ≠ row → fI H mq j = fI Hc mq j) : CG (avw K H b) := by
  have cl : ∀ (y : Int32) (N : Nat), y.toInt ≤ (N : Int) → y.toNatClampNeg ≤ N := fun y N hy => by show y.toInt.toNat ≤ N; omega
  have v24 : ∀ j, avw K H b 24 j = fI H mq j := fun j => by unfold avw; rw [← dm]
  have v29 : ∀ j, avw K H b 29 j = fI H f9 j := fun j => by unfold avw; rw [← d9]
  have v30 : ∀ j, avw K H b 30 j = fI H f0 j := fun j => by unfold avw; rw [← d0]
  have v31 : ∀ j, avw K H b 31 j = fI H f1 j := fun j => by unfold avw; rw [← d1]
  have v32 : avw K H b 32 = fun j => fI H oq j := funext (fun j => by unfold avw; rw [← dO])
  have v33 : avw K H b 33 = fun j => fI H aq j := funext (fun j => by unfold avw; rw [← dA])
  have w24 : ∀ j, avw K Hc b 24 j = fI Hc mq j := fun j => by unfold avw; rw [← em]
  have w29 : ∀ j, avw K Hc b 29 j = fI Hc f9 j := fun j => by unfold avw; rw [← e9]
  have w30 : ∀ j, avw K Hc b 30 j = fI Hc f0 j := fun j => by unfold avw; rw [← e0]
  have w31 : ∀ j, avw K Hc b 31 j = fI Hc f1 j := fun j => by unfold avw; rw [← e1]
  have w32 : avw K Hc b 32 = fun j => fI Hc oq j := funext (fun j => by unfold avw; rw [← eo])
  have w33 : avw K Hc b 33 = fun j => fI Hc aq j := funext (fun j => by unfold avw; rw [← ea])
  intro r l h1 h2 h3
  rw [v24] at h3
  rw [v29, v30, v31, v32, v33]
  by_cases e : r = row
  · subst e
    rw [cm] at h3
    have hl : l < n := by omega
    obtain ⟨q1, q2, q3, q4, ⟨E, q5⟩, F, q6⟩ := dl l hl
    dsimp only at q1 q2 q3 q4 q5 q6
    have x9 : fI H f9 (16 * r + l) = fI Hc f9 (96 + l) := c9.1 l hl
    have x0 : fI H f0 (16 * r + l) = fI Hc f0 (96 + l) := c0.1 l hl
    have x1 : fI H f1 (16 * r + l) = fI Hc f1 (96 + l) := c1.1 l hl
    rw [x9, x0, x1]
    have y0 := cl (fI Hc f0 (96 + l)) i (by omega)
    have y1 := cl (fI Hc f1 (96 + l)) i (by omega)
    exact ⟨⟨E, q5.move (fun t _ ht => co.1 t (by omega)) (fun t _ ht => ca.1 t (by omega))⟩, F, q6.move (fun t _ ht => co.1 t (by omega)) (fun t _ ht => ca.1 t (by omega))⟩
  · rw [cn r e] at h3
    have h5 := cg r l h1 h2 (by rw [w24]; exact h3)
    have hb := av_500 (j := 16 * r + l) hT gb (by omega)
    rw [w29, w30, w31] at hb h5
    rw [w32, w33] at h5
    have x9 : fI H f9 (16 * r + l) = fI Hc f9 (16 * r + l) := c9.2 _ (by omega)
    have x0 : fI H f0 (16 * r + l) = fI Hc f0 (16 * r + l) := c0.2 _ (by omega)
    have x1 : fI H f1 (16 * r + l) = fI Hc f1 (16 * r + l) := c1.2 _ (by omega)
    rw [x9, x0, x1]
    obtain ⟨⟨E, q5⟩, F, q6⟩ := h5
    have y0 := cl (fI Hc f0 (16 * r + l)) 500 (by omega)
    have y1 := cl (fI Hc f1 (16 * r + l)) 500 (by omega)
    exact ⟨⟨E, q5.keep2 (fun j ha hz => co.2 j (by omega)) (fun j ha hz => ca.2 j (by omega))⟩, F, q6.keep2 (fun j ha hz => co.2 j (by omega)) (fun j ha hz => ca.2 j (by omega))⟩
theorem ix16 {x y r l : Int32} (hy : y.toInt = 16 * r.toInt) (hx : x.toInt = y.toInt + l.toInt) (hr : 0 ≤ r.toInt) (hl : 0 ≤ l.toInt) : x.toNatClampNeg = 16 * r.toNatClampNeg + l.toNatClampNeg := by
  have h1 := i_cl (x := x) (by omega)
  have h2 := i_cl (x := r) hr
  have h3 := i_cl (x := l) hl
  omega
theorem ix500 {x y r l : Int32} (hy : y.toInt = 500 * r.toInt) (hx : x.toInt = y.toInt + l.toInt) (hr : 0 ≤ r.toInt) (hl : 0 ≤ l.toInt) : x.toNatClampNeg = 500 * r.toNatClampNeg + l.toNatClampNeg := by
  have h1 := i_cl (x := x) (by omega)
  have h2 := i_cl (x := r) hr
  have h3 := i_cl (x := l) hl
  omega
theorem ixk {x c l : Int32} {n : Nat} (hc : c.toInt = (n : Int)) (hx : x.toInt = c.toInt + l.toInt) (hl : 0 ≤ l.toInt) : x.toNatClampNeg = n + l.toNatClampNeg := by
  have h1 := i_cl (x := x) (by omega)
  have h3 := i_cl (x := l) hl
  omega
theorem le16 {r l : Int32} (hr : 0 ≤ r.toInt ∧ r.toInt ≤ 5) (hl : 0 ≤ l.toInt ∧ l.toInt ≤ 15) : 16 * r.toNatClampNeg + l.toNatClampNeg ≤ 96 := by
  have h2 := i_cl (x := r) hr.1
  have h3 := i_cl (x := l) hl.1
  omega
theorem le500 {r l : Int32} (hr : 0 ≤ r.toInt ∧ r.toInt ≤ 5) (hl : 0 ≤ l.toInt ∧ l.toInt ≤ 499) : 500 * r.toNatClampNeg + l.toNatClampNeg ≤ 3000 := by
  have h2 := i_cl (x := r) hr.1
  have h3 := i_cl (x := l) hl.1
  omega