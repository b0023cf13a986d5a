/-! ===== how many bars ===== -/
def cntB (f : Nat → Bool) : Nat → Nat → Int
  | 0, _ => 0
  | n + 1, k => (if f k = true then 1 else 0) + cntB f n (k + 1)
theorem cntB_0 {f : Nat → Bool} {n k : Nat} (h : n = 0) : cntB f n k = 0 := by
  subst h
  rfl
theorem cntB_y {f : Nat → Bool} {n m k k2 : Nat} (hn : n = m + 1) (hk : k2 = k + 1) (h : f k = true) : cntB f n k = 1 + cntB f m k2 := by
  subst hn; subst hk
  show (if f k = true then 1 else 0) + cntB f m (k + 1) = _
  rw [if_pos h]
theorem cntB_n {f : Nat → Bool} {n m k k2 : Nat} (hn : n = m + 1) (hk : k2 = k + 1) (h : f k = false) : cntB f n k = cntB f m k2 := by
  subst hn; subst hk
  show (if f k = true then 1 else 0) + cntB f m (k + 1) = _
  rw [if_neg (by rw [h]; decide), Int.zero_add]
theorem cntB_congr {f g : Nat → Bool} : ∀ (n k : Nat), (∀ j, k ≤ j → j < k + n → f j = g j) → cntB f n k = cntB g n k
  | 0, _, _ => rfl
  | n + 1, k, h => by
    show (if f k = true then 1 else 0) + cntB f n (k + 1) = (if g k = true then 1 else 0) + cntB g n (k + 1)
    rw [h k (by omega) (by omega), cntB_congr n (k + 1) (fun j h1 h2 => h j (by omega) (by omega))]
section
variable {K : KE} {G : Nat → Option Nat} {H H1 : Heap} {b bar law q tx : Nat} {fsE fwE : Nat → EF}
theorem true_tn {sl : Int} : trueW (tlC K H tx fsE fwE) (vwC K H q) sl = trV (tnC K H tx q fsE fwE) (bvC K H q 5) sl 3 0 := by
  unfold trueW toV tnC
  rw [vwC_f (Or.inl rfl), vwC_a (k := 1) (by decide), vwC_a (k := 2) (by decide), vwC_a (k := 3) (by decide), vwC_a (k := 4) (by decide), vwC_a (k := 5) (by decide)]
theorem true_tnR {sl : Int} : trueW (tlR K H b law fsE fwE) (vwR K H b bar) sl = trV (tnR K H b law bar fsE fwE) (fun j => (fI H (fR H b (K.1.2 10 9)) (3 * bar + j)).toInt) sl 3 0 := by
  unfold trueW toV tnR
  rw [vwR_f (Or.inl rfl), vwR_a (k := 1) (by decide), vwR_a (k := 2) (by decide), vwR_a (k := 3) (by decide), vwR_a (k := 4) (by decide), vwR_a (k := 5) (by decide)]
  rfl
end
/-- both sides count alike -/
theorem cnt_both {T U : TF} {C R : Nat → BW} {sl m : Int} {n : Nat} {F : TF → BW → Int → Bool} (hF : ∀ v u, EqW v u → (0 ≤ v 0 0 ∧ v 0 0 ≤ 16) → F T v sl = F U u sl) (h : BPE m C R) (hn : (n : Int) ≤ m) (h10 : n ≤ 10) : cntB (fun j => F T (C j) sl) n 0 = cntB (fun j => F U (R j) sl) n 0 := by
  refine cntB_congr n 0 (fun j _ hj => ?_)
  obtain ⟨a, o, _⟩ := h.1 j (by omega) (by omega)
  have o1 := o.1
  have o2 := o.2.1
  exact hF _ _ a ⟨by omega, o2⟩
