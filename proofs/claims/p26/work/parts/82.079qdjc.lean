/-! ===== what of, pass, tone answer ===== -/
def ofV (v : BW) (i w : Int) : Int := if 0 ≤ i ∧ i < v 0 0 ∧ 0 ≤ w ∧ w ≤ 3 then v (w.toNat + 1) i.toNat else -1
def pqV (v : BW) (p w : Int) : Int := if 1 ≤ p ∧ p ≤ v 8 0 ∧ 0 ≤ w ∧ w ≤ 1 then v (w.toNat + 6) (p - 1).toNat else -1
def tqV (f : Int → Int) (k : Int) : Int := if 0 ≤ k ∧ k ≤ 2 then f k else -1
theorem ofV_no {v : BW} {i w x : Int} (h : ¬ (0 ≤ i ∧ i < v 0 0 ∧ 0 ≤ w ∧ w ≤ 3)) (e : x = -1) : x = ofV v i w := e.trans (if_neg h).symm
theorem ofV_at {v : BW} {i w x : Int} {k : Nat} (h : 0 ≤ i ∧ i < v 0 0) (e : w = (k : Int)) (hk : k ≤ 3) (hx : x = v (k + 1) i.toNat) : x = ofV v i w := by
  subst e
  unfold ofV
  rw [if_pos ⟨h.1, h.2, by omega, by omega⟩]
  exact hx
theorem pqV_no {v : BW} {p w x : Int} (h : ¬ (1 ≤ p ∧ p ≤ v 8 0 ∧ 0 ≤ w ∧ w ≤ 1)) (e : x = -1) : x = pqV v p w := e.trans (if_neg h).symm
theorem pqV_at {v : BW} {p w x : Int} {k j : Nat} (h : 1 ≤ p ∧ p ≤ v 8 0) (e : w = (k : Int)) (hk : k ≤ 1) (hj : (p - 1).toNat = j) (hx : x = v (k + 6) j) : x = pqV v p w := by
  subst e
  unfold pqV
  rw [if_pos ⟨h.1, h.2, by omega, by omega⟩, hj]
  exact hx
theorem tqV_no {f : Int → Int} {k x : Int} (h : ¬ (0 ≤ k ∧ k ≤ 2)) (e : x = -1) : x = tqV f k := e.trans (if_neg h).symm
theorem tqV_at {f : Int → Int} {k x : Int} (h : 0 ≤ k ∧ k ≤ 2) (e : x = f k) : x = tqV f k := e.trans (if_pos h).symm
theorem ofV_congr {v u : BW} {i w : Int} (e : EqW v u) (o : ObV v) : ofV v i w = ofV u i w := by
  have e0 : v 0 0 = u 0 0 := e.a 0 0 (by decide) (by decide)
  have o2 := o.2.1
  unfold ofV
  rw [← e0]
  by_cases c : 0 ≤ i ∧ i < v 0 0 ∧ 0 ≤ w ∧ w ≤ 3
  · rw [if_pos c, if_pos c]
    refine e.a _ _ (by omega) ?_
    unfold wdV
    rw [if_pos (by omega)]
    omega
  · rw [if_neg c, if_neg c]
theorem pqV_congr {v u : BW} {p w : Int} (e : EqW v u) : pqV v p w = pqV u p w := by
  have e8 : v 8 0 = u 8 0 := e.a 8 0 (by decide) (by decide)
  unfold pqV
  rw [← e8]
  by_cases c : 1 ≤ p ∧ p ≤ v 8 0 ∧ 0 ≤ w ∧ w ≤ 1
  · rw [if_pos c, if_pos c]
    obtain ⟨a, b⟩ := e.2 (p - 1).toNat (by omega)
    have : w = 0 ∨ w = 1 := by omega
    rcases this with rfl | rfl
    · exact a
    · exact b
  · rw [if_neg c, if_neg c]
theorem tqV_congr {f g : Int → Int} {k : Int} (h : 0 ≤ k → k ≤ 2 → f k = g k) : tqV f k = tqV g k := by
  unfold tqV
  by_cases c : 0 ≤ k ∧ k ≤ 2
  · rw [if_pos c, if_pos c, h c.1 c.2]
  · rw [if_neg c, if_neg c]
theorem toV_tnC {K : KE} {H : Heap} {q tx : Nat} {fsE fwE : Nat → EF} {k : Int} : toV (tlC K H tx fsE fwE) (vwC K H q) k = tnC K H tx q fsE fwE k := by
  unfold toV tnC
  rw [vwC_f (Or.inl rfl), vwC_a (k := 1) (by decide), vwC_a (k := 2) (by decide), vwC_a (k := 3) (by decide), vwC_a (k := 4) (by decide)]
theorem tone_both {T U : TF} {v u : BW} {k r q : Int} (hT : EqT T U) (e : EqW v u) (o : ObV v) (a : r = tqV (toV T v) k) (b : q = tqV (toV U u) k) : r = q := by
  rw [a, b]
  have o1 := o.1
  have o2 := o.2.1
  exact tqV_congr (fun h0 h2 => toV_congrW hT e ⟨by omega, by omega⟩ h0 h2)
