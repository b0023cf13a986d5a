/-! ===== what tells answers ===== -/
def teV (T : TF) (v : BW) (w k i : Int) : Int := if (0 ≤ i ∧ i < v 0 0) ∧ (0 ≤ w ∧ w ≤ 2) ∧ (0 ≤ k ∧ k ≤ 2) then T w k (seE (v 0 0) i (v 1 i.toNat) (v 2 i.toNat) (v 3 i.toNat) (v 4 i.toNat)) else -100000
theorem teV_no {T : TF} {v : BW} {w k i x : Int} (h : ¬ ((0 ≤ i ∧ i < v 0 0) ∧ (0 ≤ w ∧ w ≤ 2) ∧ (0 ≤ k ∧ k ≤ 2))) (e : x = -100000) : x = teV T v w k i := e.trans (if_neg h).symm
theorem teV_at {T : TF} {v : BW} {w k i x : Int} (h : (0 ≤ i ∧ i < v 0 0) ∧ (0 ≤ w ∧ w ≤ 2) ∧ (0 ≤ k ∧ k ≤ 2)) (e : x = T w k (seE (v 0 0) i (v 1 i.toNat) (v 2 i.toNat) (v 3 i.toNat) (v 4 i.toNat))) : x = teV T v w k i := e.trans (if_pos h).symm
theorem teV_congr {T U : TF} {v u : BW} {w k i : Int} (hT : EqT T U) (e : EqW v u) (o : ObV v) : teV T v w k i = teV U u w k i := by
  have e0 : v 0 0 = u 0 0 := e.a 0 0 (by decide) (by decide)
  have o2 := o.2.1
  unfold teV
  rw [← e0]
  by_cases c : (0 ≤ i ∧ i < v 0 0) ∧ (0 ≤ w ∧ w ≤ 2) ∧ (0 ≤ k ∧ k ≤ 2)
  · have j16 : i.toNat < 16 := by omega
    rw [if_pos c, if_pos c, hT w k _ (by omega) c.2.2.1 c.2.2.2, e.a 1 _ (by decide) (by show i.toNat < 16; exact j16), e.a 2 _ (by decide) (by show i.toNat < 16; exact j16), e.a 3 _ (by decide) (by show i.toNat < 16; exact j16), e.a 4 _ (by decide) (by show i.toNat < 16; exact j16)]
  · rw [if_neg c, if_neg c]
