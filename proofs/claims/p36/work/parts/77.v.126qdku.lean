/-! ===== nights, the reference ===== -/
/-- heat and wet of the nights that there are -/
def NRG (K : KE) (H : Heap) (nhq nwq : Nat) (n : Int) : Prop := ∀ k : Nat, k < 20 → (k : Int) < n → (-20 ≤ (fI H nhq k).toInt ∧ (fI H nhq k).toInt ≤ 50) ∧ 0 ≤ (fI H nwq k).toInt ∧ (fI H nwq k).toInt ≤ 99
theorem NRG.same {K : KE} {H H1 : Heap} {nhq nwq : Nat} {n : Int} (h : NRG K H nhq nwq n) (e1 : ∀ j, fI H1 nhq j = fI H nhq j) (e2 : ∀ j, fI H1 nwq j = fI H nwq j) : NRG K H1 nhq nwq n := fun k hk hn => by
  rw [e1, e2]
  exact h k hk hn
theorem NRG.frr {K : KE} {G : Nat → Option Nat} {H H1 : Heap} {nhq nwq : Nat} {n : Int} (h : NRG K H nhq nwq n) (g1 : G nhq = some 154) (g2 : G nwq = some 155) (fr : FRR G H1 H) : NRG K H1 nhq nwq n := h.same (fun j => FRR.I fr g1 (by decide) (by decide)) (fun j => FRR.I fr g2 (by decide) (by decide))
