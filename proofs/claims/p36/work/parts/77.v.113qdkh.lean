/-! ===== the stopper: the shortest tube that comes nearest ===== -/
/-- the first of 1 .. 9999 that is nearest -/
def fiM (d : Int → Int) (r : Int) : Prop := (1 ≤ r ∧ r ≤ 9999) ∧ (∀ L, 1 ≤ L → L ≤ 9999 → d r ≤ d L) ∧ ∀ L, 1 ≤ L → L < r → d r < d L
theorem fiM.eq {d : Int → Int} {r s : Int} (h : fiM d r) (g : fiM d s) : r = s := by
  rcases Int.lt_trichotomy r s with c | c | c
  · have := h.2.1 s g.1.1 g.1.2
    have := g.2.2 r h.1.1 c
    omega
  · exact c
  · have := g.2.1 r h.1.1 h.1.2
    have := h.2.2 s g.1.1 c
    omega
/-! ===== drift: a tone in heat and wet ===== -/
/-! ===== what in answers ===== -/
