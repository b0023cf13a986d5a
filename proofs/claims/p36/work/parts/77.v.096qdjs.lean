/-! ===== still points ===== -/
def isS (F : Nat → Bool) (n i : Nat) : Bool := decide (i + 1 < n ∧ F i ≠ F (i + 1))
def stA (S : Nat → Bool) : Nat → Nat → Int → Int
  | 0, _, _ => -1
  | m + 1, i, w => if S i = true then (if w = 0 then (i : Int) else stA S m (i + 1) (w - 1)) else stA S m (i + 1) w
theorem stA_n {S : Nat → Bool} {n m k k2 : Nat} {w : Int} (hn : n = m + 1) (hk : k2 = k + 1) (h : S k = false) : stA S n k w = stA S m k2 w := by
  subst hn; subst hk
  show (if S k = true then (if w = 0 then (k : Int) else stA S m (k + 1) (w - 1)) else stA S m (k + 1) w) = _
  rw [if_neg (by rw [h]; decide)]
/-- what the class knows as it comes to slice i: c of them stand in the row, wb says how the slice ahead sways -/
def StI (F : Nat → Bool) (n : Nat) (pt : Nat → Int) (c wb i : Int) : Prop :=
  c + cntB (isS F n) (n - (i - 1).toNat) (i - 1).toNat = cntB (isS F n) n 0 ∧ (∀ w : Nat, (w : Int) < c → pt w = stA (isS F n) n 0 w) ∧ (∀ w : Int, c ≤ w → stA (isS F n) n 0 w = stA (isS F n) (n - (i - 1).toNat) (i - 1).toNat (w - c)) ∧ (0 < i → wb = if F (i - 1).toNat = true then 1 else 0)
theorem StI.same {F : Nat → Bool} {n : Nat} {pt pt2 : Nat → Int} {c wb i wb2 i2 : Int} {p : Nat} {b : Bool} (h : StI F n pt c wb i) (hi : (p : Int) = i) (hn : p < n) (hb : F p = b) (hw : wb2 = if b = true then 1 else 0) (hc : i ≤ 0 ∨ wb = wb2) (hi2 : i2 = i + 1) (hp : ∀ w : Nat, (w : Int) < c → pt2 w = pt w) : StI F n pt2 c wb2 i2 := by
  obtain ⟨h1, h2, h3, h4⟩ := h
  have e2 : (i2 - 1).toNat = p := by omega
  have hl : 0 < i2 → wb2 = if F (i2 - 1).toNat = true then 1 else 0 := fun _ => by rw [e2, hb]; exact hw
  rcases Nat.eq_zero_or_pos p with e | e
  · have e1 : (i - 1).toNat = p := by omega
    rw [e1] at h1 h3
    unfold StI
    rw [e2]
    rw [e2] at hl
    exact ⟨h1, fun w hw => (hp w hw).trans (h2 w hw), h3, hl⟩
  · have e1 : (i - 1).toNat = p - 1 := by omega
    have h4 := h4 (by omega)
    rw [e1] at h1 h3 h4
    have hF : F (p - 1) = F p := by
      have hq : wb = wb2 := by omega
      rw [hb]
      rw [h4, hw] at hq
      cases x : F (p - 1) <;> cases b <;> first | rfl | (rw [x] at hq; exact absurd hq (by decide))
    have hs : isS F n (p - 1) = false := decide_eq_false (fun z => z.2 (by rw [show p - 1 + 1 = p by omega]; exact hF))
    unfold StI
    rw [e2]
    rw [e2] at hl
    exact ⟨by rw [← h1, cntB_n (f := isS F n) (n := n - (p - 1)) (m := n - p) (k := p - 1) (k2 := p) (by omega) (by omega) hs], fun w hw => (hp w hw).trans (h2 w hw), fun w hw => by rw [h3 w hw, stA_n (S := isS F n) (n := n - (p - 1)) (m := n - p) (k := p - 1) (k2 := p) (w := w - c) (by omega) (by omega) hs], hl⟩
theorem StI.out {F : Nat → Bool} {n : Nat} {pt : Nat → Int} {c wb i : Int} (h : StI F n pt c wb i) (hi : (n : Int) ≤ i) : c = cntB (isS F n) n 0 ∧ ∀ w : Nat, (w : Int) < c → pt w = stA (isS F n) n 0 w := by
  obtain ⟨h1, h2, -, -⟩ := h
  refine ⟨?_, h2⟩
  have z : cntB (isS F n) (n - (i - 1).toNat) (i - 1).toNat = 0 := by
    rcases Nat.eq_zero_or_pos (n - (i - 1).toNat) with e | e
    · exact cntB_0 e
    · have hs : isS F n (i - 1).toNat = false := decide_eq_false (fun y => by have := y.1; omega)
      rw [cntB_n (f := isS F n) (n := n - (i - 1).toNat) (m := 0) (k := (i - 1).toNat) (k2 := (i - 1).toNat + 1) (by omega) rfl hs]
      rfl
  omega
