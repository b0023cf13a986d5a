theorem DB.lt {H : Heap} {bq : Nat} (h : DB H bq) : ∀ {j i : Nat}, i < j → j < 10 → fR H bq i < fR H bq j := by
  intro j
  induction j with
  | zero => intro i hi _; exact absurd hi (Nat.not_lt_zero i)
  | succ j ih =>
    intro i hi hj
    have h1 := h j (by omega)
    by_cases e : i = j
    · subst e; exact h1
    · exact Nat.lt_trans (ih (by omega) (by omega)) h1
theorem DB.ne {H : Heap} {bq i j : Nat} (h : DB H bq) (hi : i < 10) (hj : j < 10) (hn : i ≠ j) : fR H bq i ≠ fR H bq j := by
  by_cases e : i < j
  · exact Nat.ne_of_lt (h.lt e hj)
  · exact (Nat.ne_of_lt (h.lt (show j < i by omega) hi)).symm
theorem CB.to {H0 H1 : Heap} {bq oq k N M : Nat} (h : ∀ j : Nat, j < 10 → j < N → fI H1 (fR H0 bq j) k = fI H0 (fR H0 oq j) k) (hM : M ≤ N) : ∀ j : Nat, j < 10 → j < M → fI H1 (fR H0 bq j) k = fI H0 (fR H0 oq j) k := fun j h10 hj => h j h10 (by omega)
theorem CB.step {G : Nat → Option Nat} {H0 H1 H2 : Heap} {bq oq k N B q1 q2 : Nat} {t u : Int32} (db : DB H0 bq) (gB : ∀ j : Nat, j < 10 → G (fR H0 bq j) = some B) (hN : N < 10) (cb : ∀ j : Nat, j < 10 → j < N → fI H1 (fR H0 bq j) k = fI H0 (fR H0 oq j) k) (rf : ∀ q : Nat, G q = some B → q ≠ q1 → fI H2 q k = fI H1 q k) (E1 : q1 = fR H0 bq N) (E2 : q2 = fR H0 oq N) (ht : t = fI H2 q1 k) (hu : u = fI H1 q2 k) (so : fI H1 q2 k = fI H0 q2 k) (e : t.toInt = u.toInt) : ∀ j : Nat, j < 10 → j < N + 1 → fI H2 (fR H0 bq j) k = fI H0 (fR H0 oq j) k := by
  intro j h10 hj
  by_cases h : j = N
  · subst h; rw [← E1, ← E2, ← ht, ← so, ← hu]; exact Int32.toInt_inj.mp e
  · have hlt := DB.lt db (show j < N by omega) hN
    rw [rf _ (gB j h10) (by rw [E1]; exact Nat.ne_of_lt hlt)]
    exact cb j h10 (by omega)
theorem CB.fin {G : Nat → Option Nat} {H0 H1 : Heap} {bq oq k N B : Nat} (cb : ∀ j : Nat, j < 10 → j < N → fI H1 (fR H0 bq j) k = fI H0 (fR H0 oq j) k) (rb : ∀ j : Nat, fR H1 bq j = fR H0 bq j) (ro : ∀ j : Nat, fR H1 oq j = fR H0 oq j) (so : ∀ q : Nat, G q = some B → fI H1 q k = fI H0 q k) (gO : ∀ j : Nat, j < 10 → G (fR H0 oq j) = some B) : ∀ j : Nat, j < 10 → j < N → fI H1 (fR H1 bq j) k = fI H1 (fR H1 oq j) k := fun j h10 hj => by
  rw [rb, ro, so _ (gO j h10)]
  exact cb j h10 hj
